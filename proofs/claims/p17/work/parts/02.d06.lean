theorem dX11_openerSign_1 : decode cX11_openerSign 1 = .ok (.ifCond .ne 24, 3) := by decide +kernel
theorem dX11_openerSign_4 : decode cX11_openerSign 4 = .ok (.iload_n 1, 1) := by decide +kernel
theorem dX11_openerSign_5 : decode cX11_openerSign 5 = .ok (.ifCond .ne 8, 3) := by decide +kernel
theorem dX11_openerSign_8 : decode cX11_openerSign 8 = .ok (.bipush 33, 2) := by decide +kernel
theorem dX11_openerSign_10 : decode cX11_openerSign 10 = .ok (.goto 14, 3) := by decide +kernel
theorem dX11_openerSign_13 : decode cX11_openerSign 13 = .ok (.iload_n 1, 1) := by decide +kernel
theorem dX11_openerSign_14 : decode cX11_openerSign 14 = .ok (.iconst 3, 1) := by decide +kernel
theorem dX11_openerSign_15 : decode cX11_openerSign 15 = .ok (.if_icmp .ge 8, 3) := by decide +kernel
theorem dX11_openerSign_18 : decode cX11_openerSign 18 = .ok (.bipush 45, 2) := by decide +kernel
theorem dX11_openerSign_20 : decode cX11_openerSign 20 = .ok (.goto 4, 3) := by decide +kernel
theorem dX11_openerSign_23 : decode cX11_openerSign 23 = .ok (.iconst 0, 1) := by decide +kernel
theorem dX11_openerSign_24 : decode cX11_openerSign 24 = .ok (.ireturn, 1) := by decide +kernel
theorem dX11_openerSign_25 : decode cX11_openerSign 25 = .ok (.iload_n 1, 1) := by decide +kernel
theorem dX11_openerSign_26 : decode cX11_openerSign 26 = .ok (.tableswitch 70 0 7 #[46, 49, 52, 55, 58, 61, 64, 67], 46) := by decide +kernel
theorem dX11_openerSign_72 : decode cX11_openerSign 72 = .ok (.bipush 33, 2) := by decide +kernel
theorem dX11_openerSign_74 : decode cX11_openerSign 74 = .ok (.ireturn, 1) := by decide +kernel
theorem dX11_openerSign_75 : decode cX11_openerSign 75 = .ok (.bipush 91, 2) := by decide +kernel
theorem dX11_openerSign_77 : decode cX11_openerSign 77 = .ok (.ireturn, 1) := by decide +kernel
theorem dX11_openerSign_78 : decode cX11_openerSign 78 = .ok (.bipush 67, 2) := by decide +kernel
theorem dX11_openerSign_80 : decode cX11_openerSign 80 = .ok (.ireturn, 1) := by decide +kernel
theorem dX11_openerSign_81 : decode cX11_openerSign 81 = .ok (.bipush 68, 2) := by decide +kernel
theorem dX11_openerSign_83 : decode cX11_openerSign 83 = .ok (.ireturn, 1) := by decide +kernel
theorem dX11_openerSign_84 : decode cX11_openerSign 84 = .ok (.bipush 65, 2) := by decide +kernel
theorem dX11_openerSign_86 : decode cX11_openerSign 86 = .ok (.ireturn, 1) := by decide +kernel
theorem dX11_openerSign_87 : decode cX11_openerSign 87 = .ok (.bipush 84, 2) := by decide +kernel
theorem dX11_openerSign_89 : decode cX11_openerSign 89 = .ok (.ireturn, 1) := by decide +kernel
theorem dX11_openerSign_90 : decode cX11_openerSign 90 = .ok (.bipush 65, 2) := by decide +kernel
theorem dX11_openerSign_92 : decode cX11_openerSign 92 = .ok (.ireturn, 1) := by decide +kernel
theorem dX11_openerSign_93 : decode cX11_openerSign 93 = .ok (.bipush 91, 2) := by decide +kernel
theorem dX11_openerSign_95 : decode cX11_openerSign 95 = .ok (.ireturn, 1) := by decide +kernel
theorem dX11_openerSign_96 : decode cX11_openerSign 96 = .ok (.iconst 0, 1) := by decide +kernel
theorem dX11_openerSign_97 : decode cX11_openerSign 97 = .ok (.ireturn, 1) := by decide +kernel
theorem dX11_section_0 : decode cX11_section 0 = .ok (.iconst 0, 1) := by decide +kernel
theorem dX11_section_1 : decode cX11_section 1 = .ok (.istore 4, 2) := by decide +kernel
theorem dX11_section_3 : decode cX11_section 3 = .ok (.bipush (-2), 2) := by decide +kernel
theorem dX11_section_5 : decode cX11_section 5 = .ok (.istore 5, 2) := by decide +kernel
theorem dX11_section_7 : decode cX11_section 7 = .ok (.iconst 0, 1) := by decide +kernel
theorem dX11_section_8 : decode cX11_section 8 = .ok (.istore 6, 2) := by decide +kernel
theorem dX11_section_10 : decode cX11_section 10 = .ok (.iload 6, 2) := by decide +kernel
theorem dX11_section_12 : decode cX11_section 12 = .ok (.iconst 2, 1) := by decide +kernel
theorem dX11_section_13 : decode cX11_section 13 = .ok (.if_icmp .ge 83, 3) := by decide +kernel
theorem dX11_section_16 : decode cX11_section 16 = .ok (.iconst 0, 1) := by decide +kernel
theorem dX11_section_17 : decode cX11_section 17 = .ok (.istore 7, 2) := by decide +kernel
theorem dX11_section_19 : decode cX11_section 19 = .ok (.iload 6, 2) := by decide +kernel
theorem dX11_section_21 : decode cX11_section 21 = .ok (.iload 7, 2) := by decide +kernel
theorem dX11_section_23 : decode cX11_section 23 = .ok (.invokestatic 398, 3) := by decide +kernel
theorem dX11_section_26 : decode cX11_section 26 = .ok (.ifCond .eq 29, 3) := by decide +kernel
theorem dX11_section_29 : decode cX11_section 29 = .ok (.iload 6, 2) := by decide +kernel
theorem dX11_section_31 : decode cX11_section 31 = .ok (.iload 7, 2) := by decide +kernel
theorem dX11_section_33 : decode cX11_section 33 = .ok (.invokestatic 398, 3) := by decide +kernel
theorem dX11_section_36 : decode cX11_section 36 = .ok (.aload_n 0, 1) := by decide +kernel
theorem dX11_section_37 : decode cX11_section 37 = .ok (.iload_n 1, 1) := by decide +kernel
theorem dX11_section_38 : decode cX11_section 38 = .ok (.iconst 1, 1) := by decide +kernel
theorem dX11_section_39 : decode cX11_section 39 = .ok (.iadd, 1) := by decide +kernel
theorem dX11_section_40 : decode cX11_section 40 = .ok (.iload 7, 2) := by decide +kernel
theorem dX11_section_42 : decode cX11_section 42 = .ok (.iadd, 1) := by decide +kernel
theorem dX11_section_43 : decode cX11_section 43 = .ok (.invokevirtual 349, 3) := by decide +kernel
theorem dX11_section_46 : decode cX11_section 46 = .ok (.if_icmp .ne 9, 3) := by decide +kernel
theorem dX11_section_49 : decode cX11_section 49 = .ok (.iinc 7 1, 3) := by decide +kernel
theorem dX11_section_52 : decode cX11_section 52 = .ok (.goto (-33), 3) := by decide +kernel
theorem dX11_section_55 : decode cX11_section 55 = .ok (.iload 6, 2) := by decide +kernel
theorem dX11_section_57 : decode cX11_section 57 = .ok (.iload 7, 2) := by decide +kernel
theorem dX11_section_59 : decode cX11_section 59 = .ok (.invokestatic 398, 3) := by decide +kernel
theorem dX11_section_62 : decode cX11_section 62 = .ok (.ifCond .ne 8, 3) := by decide +kernel
theorem dX11_section_65 : decode cX11_section 65 = .ok (.iload 6, 2) := by decide +kernel
theorem dX11_section_67 : decode cX11_section 67 = .ok (.goto 5, 3) := by decide +kernel
theorem dX11_section_70 : decode cX11_section 70 = .ok (.iload 5, 2) := by decide +kernel
theorem dX11_section_72 : decode cX11_section 72 = .ok (.istore 5, 2) := by decide +kernel
theorem dX11_section_74 : decode cX11_section 74 = .ok (.iload 7, 2) := by decide +kernel
theorem dX11_section_76 : decode cX11_section 76 = .ok (.iload 4, 2) := by decide +kernel
theorem dX11_section_78 : decode cX11_section 78 = .ok (.if_icmp .le 8, 3) := by decide +kernel
theorem dX11_section_81 : decode cX11_section 81 = .ok (.iload 7, 2) := by decide +kernel
theorem dX11_section_83 : decode cX11_section 83 = .ok (.goto 5, 3) := by decide +kernel
theorem dX11_section_86 : decode cX11_section 86 = .ok (.iload 4, 2) := by decide +kernel
theorem dX11_section_88 : decode cX11_section 88 = .ok (.istore 4, 2) := by decide +kernel
theorem dX11_section_90 : decode cX11_section 90 = .ok (.iinc 6 1, 3) := by decide +kernel
theorem dX11_section_93 : decode cX11_section 93 = .ok (.goto (-83), 3) := by decide +kernel
theorem dX11_section_96 : decode cX11_section 96 = .ok (.iload_n 1, 1) := by decide +kernel
theorem dX11_section_97 : decode cX11_section 97 = .ok (.iconst 1, 1) := by decide +kernel
theorem dX11_section_98 : decode cX11_section 98 = .ok (.iadd, 1) := by decide +kernel
theorem dX11_section_99 : decode cX11_section 99 = .ok (.iload 4, 2) := by decide +kernel
theorem dX11_section_101 : decode cX11_section 101 = .ok (.iadd, 1) := by decide +kernel
theorem dX11_section_102 : decode cX11_section 102 = .ok (.istore 6, 2) := by decide +kernel
theorem dX11_section_104 : decode cX11_section 104 = .ok (.iload 5, 2) := by decide +kernel
theorem dX11_section_106 : decode cX11_section 106 = .ok (.bipush (-2), 2) := by decide +kernel
theorem dX11_section_108 : decode cX11_section 108 = .ok (.if_icmp .ne 21, 3) := by decide +kernel
theorem dX11_section_111 : decode cX11_section 111 = .ok (.aload_n 0, 1) := by decide +kernel
theorem dX11_section_112 : decode cX11_section 112 = .ok (.iload_n 3, 1) := by decide +kernel
theorem dX11_section_113 : decode cX11_section 113 = .ok (.ifCond .eq 7, 3) := by decide +kernel
theorem dX11_section_116 : decode cX11_section 116 = .ok (.iload_n 1, 1) := by decide +kernel
theorem dX11_section_117 : decode cX11_section 117 = .ok (.goto 6, 3) := by decide +kernel
theorem dX11_section_120 : decode cX11_section 120 = .ok (.iload_n 1, 1) := by decide +kernel
theorem dX11_section_121 : decode cX11_section 121 = .ok (.iconst 1, 1) := by decide +kernel
theorem dX11_section_122 : decode cX11_section 122 = .ok (.iadd, 1) := by decide +kernel
theorem dX11_section_123 : decode cX11_section 123 = .ok (.invokevirtual 362, 3) := by decide +kernel
theorem dX11_section_126 : decode cX11_section 126 = .ok (.iload 6, 2) := by decide +kernel
theorem dX11_section_128 : decode cX11_section 128 = .ok (.ireturn, 1) := by decide +kernel
theorem dX11_section_129 : decode cX11_section 129 = .ok (.iload 5, 2) := by decide +kernel
theorem dX11_section_131 : decode cX11_section 131 = .ok (.ifCond .ne 88, 3) := by decide +kernel
theorem dX11_section_134 : decode cX11_section 134 = .ok (.aload_n 0, 1) := by decide +kernel
theorem dX11_section_135 : decode cX11_section 135 = .ok (.iload 6, 2) := by decide +kernel
theorem dX11_section_137 : decode cX11_section 137 = .ok (.invokevirtual 349, 3) := by decide +kernel
theorem dX11_section_140 : decode cX11_section 140 = .ok (.ifCond .lt 33, 3) := by decide +kernel
theorem dX11_section_143 : decode cX11_section 143 = .ok (.aload_n 0, 1) := by decide +kernel
theorem dX11_section_144 : decode cX11_section 144 = .ok (.iload 6, 2) := by decide +kernel
theorem dX11_section_146 : decode cX11_section 146 = .ok (.invokevirtual 349, 3) := by decide +kernel
theorem dX11_section_149 : decode cX11_section 149 = .ok (.bipush 45, 2) := by decide +kernel
theorem dX11_section_151 : decode cX11_section 151 = .ok (.if_icmp .ne 16, 3) := by decide +kernel
theorem dX11_section_154 : decode cX11_section 154 = .ok (.aload_n 0, 1) := by decide +kernel
theorem dX11_section_155 : decode cX11_section 155 = .ok (.iload 6, 2) := by decide +kernel
theorem dX11_section_157 : decode cX11_section 157 = .ok (.iconst 1, 1) := by decide +kernel
theorem dX11_section_158 : decode cX11_section 158 = .ok (.iadd, 1) := by decide +kernel
theorem dX11_section_159 : decode cX11_section 159 = .ok (.invokevirtual 349, 3) := by decide +kernel
theorem dX11_section_162 : decode cX11_section 162 = .ok (.bipush 45, 2) := by decide +kernel
theorem dX11_section_164 : decode cX11_section 164 = .ok (.if_icmp .eq 9, 3) := by decide +kernel
theorem dX11_section_167 : decode cX11_section 167 = .ok (.iinc 6 1, 3) := by decide +kernel
theorem dX11_section_170 : decode cX11_section 170 = .ok (.goto (-36), 3) := by decide +kernel
theorem dX11_section_173 : decode cX11_section 173 = .ok (.aload_n 0, 1) := by decide +kernel
theorem dX11_section_174 : decode cX11_section 174 = .ok (.iload 6, 2) := by decide +kernel
theorem dX11_section_176 : decode cX11_section 176 = .ok (.invokevirtual 349, 3) := by decide +kernel
theorem dX11_section_179 : decode cX11_section 179 = .ok (.ifCond .ge 14, 3) := by decide +kernel
theorem dX11_section_182 : decode cX11_section 182 = .ok (.aload_n 0, 1) := by decide +kernel
theorem dX11_section_183 : decode cX11_section 183 = .ok (.aload_n 0, 1) := by decide +kernel
theorem dX11_section_184 : decode cX11_section 184 = .ok (.getfield 340, 3) := by decide +kernel
theorem dX11_section_187 : decode cX11_section 187 = .ok (.invokevirtual 362, 3) := by decide +kernel
theorem dX11_section_190 : decode cX11_section 190 = .ok (.goto 24, 3) := by decide +kernel
theorem dX11_section_193 : decode cX11_section 193 = .ok (.aload_n 0, 1) := by decide +kernel
theorem dX11_section_194 : decode cX11_section 194 = .ok (.iload 6, 2) := by decide +kernel
theorem dX11_section_196 : decode cX11_section 196 = .ok (.iconst 2, 1) := by decide +kernel
theorem dX11_section_197 : decode cX11_section 197 = .ok (.iadd, 1) := by decide +kernel
theorem dX11_section_198 : decode cX11_section 198 = .ok (.invokevirtual 349, 3) := by decide +kernel
theorem dX11_section_201 : decode cX11_section 201 = .ok (.bipush 62, 2) := by decide +kernel
theorem dX11_section_203 : decode cX11_section 203 = .ok (.if_icmp .eq 11, 3) := by decide +kernel
theorem dX11_section_206 : decode cX11_section 206 = .ok (.aload_n 0, 1) := by decide +kernel
theorem dX11_section_207 : decode cX11_section 207 = .ok (.iload 6, 2) := by decide +kernel
theorem dX11_section_209 : decode cX11_section 209 = .ok (.iconst 2, 1) := by decide +kernel
theorem dX11_section_210 : decode cX11_section 210 = .ok (.iadd, 1) := by decide +kernel
theorem dX11_section_211 : decode cX11_section 211 = .ok (.invokevirtual 362, 3) := by decide +kernel
theorem dX11_section_214 : decode cX11_section 214 = .ok (.iload 6, 2) := by decide +kernel
theorem dX11_section_216 : decode cX11_section 216 = .ok (.iconst 3, 1) := by decide +kernel
theorem dX11_section_217 : decode cX11_section 217 = .ok (.iadd, 1) := by decide +kernel
theorem dX11_section_218 : decode cX11_section 218 = .ok (.ireturn, 1) := by decide +kernel
theorem dX11_section_219 : decode cX11_section 219 = .ok (.aload_n 0, 1) := by decide +kernel
theorem dX11_section_220 : decode cX11_section 220 = .ok (.iload 6, 2) := by decide +kernel
theorem dX11_section_222 : decode cX11_section 222 = .ok (.invokevirtual 349, 3) := by decide +kernel
theorem dX11_section_225 : decode cX11_section 225 = .ok (.ifCond .lt 58, 3) := by decide +kernel
theorem dX11_section_228 : decode cX11_section 228 = .ok (.aload_n 0, 1) := by decide +kernel
theorem dX11_section_229 : decode cX11_section 229 = .ok (.iload 6, 2) := by decide +kernel
theorem dX11_section_231 : decode cX11_section 231 = .ok (.invokevirtual 349, 3) := by decide +kernel
theorem dX11_section_234 : decode cX11_section 234 = .ok (.bipush 93, 2) := by decide +kernel
theorem dX11_section_236 : decode cX11_section 236 = .ok (.if_icmp .ne 29, 3) := by decide +kernel
theorem dX11_section_239 : decode cX11_section 239 = .ok (.aload_n 0, 1) := by decide +kernel
theorem dX11_section_240 : decode cX11_section 240 = .ok (.iload 6, 2) := by decide +kernel
theorem dX11_section_242 : decode cX11_section 242 = .ok (.iconst 1, 1) := by decide +kernel
theorem dX11_section_243 : decode cX11_section 243 = .ok (.iadd, 1) := by decide +kernel
theorem dX11_section_244 : decode cX11_section 244 = .ok (.invokevirtual 349, 3) := by decide +kernel
theorem dX11_section_247 : decode cX11_section 247 = .ok (.bipush 93, 2) := by decide +kernel
theorem dX11_section_249 : decode cX11_section 249 = .ok (.if_icmp .ne 16, 3) := by decide +kernel
theorem dX11_section_252 : decode cX11_section 252 = .ok (.aload_n 0, 1) := by decide +kernel
theorem dX11_section_253 : decode cX11_section 253 = .ok (.iload 6, 2) := by decide +kernel
theorem dX11_section_255 : decode cX11_section 255 = .ok (.iconst 2, 1) := by decide +kernel
theorem dX11_section_256 : decode cX11_section 256 = .ok (.iadd, 1) := by decide +kernel
theorem dX11_section_257 : decode cX11_section 257 = .ok (.invokevirtual 349, 3) := by decide +kernel
theorem dX11_section_260 : decode cX11_section 260 = .ok (.bipush 62, 2) := by decide +kernel
theorem dX11_section_262 : decode cX11_section 262 = .ok (.if_icmp .eq 21, 3) := by decide +kernel
theorem dX11_section_265 : decode cX11_section 265 = .ok (.aload_n 0, 1) := by decide +kernel
theorem dX11_section_266 : decode cX11_section 266 = .ok (.aload_n 0, 1) := by decide +kernel
theorem dX11_section_267 : decode cX11_section 267 = .ok (.getfield 102, 3) := by decide +kernel
theorem dX11_section_270 : decode cX11_section 270 = .ok (.iload 6, 2) := by decide +kernel
theorem dX11_section_272 : decode cX11_section 272 = .ok (.iaload, 1) := by decide +kernel
theorem dX11_section_273 : decode cX11_section 273 = .ok (.iload_n 2, 1) := by decide +kernel
theorem dX11_section_274 : decode cX11_section 274 = .ok (.invokevirtual 365, 3) := by decide +kernel
theorem dX11_section_277 : decode cX11_section 277 = .ok (.iinc 6 1, 3) := by decide +kernel
theorem dX11_section_280 : decode cX11_section 280 = .ok (.goto (-61), 3) := by decide +kernel
theorem dX11_section_283 : decode cX11_section 283 = .ok (.aload_n 0, 1) := by decide +kernel
theorem dX11_section_284 : decode cX11_section 284 = .ok (.iload 6, 2) := by decide +kernel
theorem dX11_section_286 : decode cX11_section 286 = .ok (.invokevirtual 349, 3) := by decide +kernel
theorem dX11_section_289 : decode cX11_section 289 = .ok (.ifCond .ge 11, 3) := by decide +kernel
theorem dX11_section_292 : decode cX11_section 292 = .ok (.aload_n 0, 1) := by decide +kernel
theorem dX11_section_293 : decode cX11_section 293 = .ok (.aload_n 0, 1) := by decide +kernel
theorem dX11_section_294 : decode cX11_section 294 = .ok (.getfield 340, 3) := by decide +kernel
theorem dX11_section_297 : decode cX11_section 297 = .ok (.invokevirtual 362, 3) := by decide +kernel
theorem dX11_section_300 : decode cX11_section 300 = .ok (.iload 6, 2) := by decide +kernel
theorem dX11_section_302 : decode cX11_section 302 = .ok (.iconst 3, 1) := by decide +kernel
theorem dX11_section_303 : decode cX11_section 303 = .ok (.iadd, 1) := by decide +kernel
theorem dX11_section_304 : decode cX11_section 304 = .ok (.ireturn, 1) := by decide +kernel
theorem dX11_parse_0 : decode cX11_parse 0 = .ok (.aload_n 0, 1) := by decide +kernel
theorem dX11_parse_1 : decode cX11_parse 1 = .ok (.iconst 0, 1) := by decide +kernel
theorem dX11_parse_2 : decode cX11_parse 2 = .ok (.putfield 386, 3) := by decide +kernel
theorem dX11_parse_5 : decode cX11_parse 5 = .ok (.aload_n 0, 1) := by decide +kernel
theorem dX11_parse_6 : decode cX11_parse 6 = .ok (.iconst 0, 1) := by decide +kernel
theorem dX11_parse_7 : decode cX11_parse 7 = .ok (.putfield 377, 3) := by decide +kernel
theorem dX11_parse_10 : decode cX11_parse 10 = .ok (.aload_n 0, 1) := by decide +kernel
theorem dX11_parse_11 : decode cX11_parse 11 = .ok (.iconst 0, 1) := by decide +kernel
theorem dX11_parse_12 : decode cX11_parse 12 = .ok (.putfield 355, 3) := by decide +kernel
theorem dX11_parse_15 : decode cX11_parse 15 = .ok (.aload_n 0, 1) := by decide +kernel
theorem dX11_parse_16 : decode cX11_parse 16 = .ok (.bipush (-2), 2) := by decide +kernel
theorem dX11_parse_18 : decode cX11_parse 18 = .ok (.putfield 343, 3) := by decide +kernel
theorem dX11_parse_21 : decode cX11_parse 21 = .ok (.aload_n 0, 1) := by decide +kernel
theorem dX11_parse_22 : decode cX11_parse 22 = .ok (.iconst 0, 1) := by decide +kernel
theorem dX11_parse_23 : decode cX11_parse 23 = .ok (.invokevirtual 389, 3) := by decide +kernel
theorem dX11_parse_26 : decode cX11_parse 26 = .ok (.istore_n 1, 1) := by decide +kernel
theorem dX11_parse_27 : decode cX11_parse 27 = .ok (.aload_n 0, 1) := by decide +kernel
theorem dX11_parse_28 : decode cX11_parse 28 = .ok (.iload_n 1, 1) := by decide +kernel
theorem dX11_parse_29 : decode cX11_parse 29 = .ok (.invokevirtual 349, 3) := by decide +kernel
theorem dX11_parse_32 : decode cX11_parse 32 = .ok (.bipush 60, 2) := by decide +kernel
theorem dX11_parse_34 : decode cX11_parse 34 = .ok (.if_icmp .eq 9, 3) := by decide +kernel
theorem dX11_parse_37 : decode cX11_parse 37 = .ok (.aload_n 0, 1) := by decide +kernel
theorem dX11_parse_38 : decode cX11_parse 38 = .ok (.iload_n 1, 1) := by decide +kernel
theorem dX11_parse_39 : decode cX11_parse 39 = .ok (.invokevirtual 362, 3) := by decide +kernel
theorem dX11_parse_42 : decode cX11_parse 42 = .ok (.return_, 1) := by decide +kernel
theorem dX11_parse_43 : decode cX11_parse 43 = .ok (.bipush (-2), 2) := by decide +kernel
theorem dX11_parse_45 : decode cX11_parse 45 = .ok (.istore_n 2, 1) := by decide +kernel
theorem dX11_parse_46 : decode cX11_parse 46 = .ok (.iconst 0, 1) := by decide +kernel
theorem dX11_parse_47 : decode cX11_parse 47 = .ok (.istore_n 3, 1) := by decide +kernel
theorem dX11_parse_48 : decode cX11_parse 48 = .ok (.iconst 1, 1) := by decide +kernel
theorem dX11_parse_49 : decode cX11_parse 49 = .ok (.istore 4, 2) := by decide +kernel
theorem dX11_parse_51 : decode cX11_parse 51 = .ok (.iload 4, 2) := by decide +kernel
theorem dX11_parse_53 : decode cX11_parse 53 = .ok (.ifCond .eq 247, 3) := by decide +kernel
theorem dX11_parse_56 : decode cX11_parse 56 = .ok (.aload_n 0, 1) := by decide +kernel
theorem dX11_parse_57 : decode cX11_parse 57 = .ok (.getfield 343, 3) := by decide +kernel
theorem dX11_parse_60 : decode cX11_parse 60 = .ok (.bipush (-2), 2) := by decide +kernel
theorem dX11_parse_62 : decode cX11_parse 62 = .ok (.if_icmp .ne 238, 3) := by decide +kernel
theorem dX11_parse_65 : decode cX11_parse 65 = .ok (.aload_n 0, 1) := by decide +kernel
theorem dX11_parse_66 : decode cX11_parse 66 = .ok (.iload_n 1, 1) := by decide +kernel
theorem dX11_parse_67 : decode cX11_parse 67 = .ok (.invokevirtual 349, 3) := by decide +kernel
theorem dX11_parse_70 : decode cX11_parse 70 = .ok (.istore 5, 2) := by decide +kernel
theorem dX11_parse_72 : decode cX11_parse 72 = .ok (.aload_n 0, 1) := by decide +kernel
theorem dX11_parse_73 : decode cX11_parse 73 = .ok (.iload_n 1, 1) := by decide +kernel
theorem dX11_parse_74 : decode cX11_parse 74 = .ok (.iconst 1, 1) := by decide +kernel
theorem dX11_parse_75 : decode cX11_parse 75 = .ok (.iadd, 1) := by decide +kernel
theorem dX11_parse_76 : decode cX11_parse 76 = .ok (.invokevirtual 349, 3) := by decide +kernel
theorem dX11_parse_79 : decode cX11_parse 79 = .ok (.istore 6, 2) := by decide +kernel
theorem dX11_parse_81 : decode cX11_parse 81 = .ok (.iload_n 3, 1) := by decide +kernel
theorem dX11_parse_82 : decode cX11_parse 82 = .ok (.bipush 40, 2) := by decide +kernel
theorem dX11_parse_84 : decode cX11_parse 84 = .ok (.if_icmp .eq 13, 3) := by decide +kernel
theorem dX11_parse_87 : decode cX11_parse 87 = .ok (.aload_n 0, 1) := by decide +kernel
theorem dX11_parse_88 : decode cX11_parse 88 = .ok (.getfield 386, 3) := by decide +kernel
theorem dX11_parse_91 : decode cX11_parse 91 = .ok (.sipush 200, 3) := by decide +kernel
theorem dX11_parse_94 : decode cX11_parse 94 = .ok (.if_icmp .ne 7, 3) := by decide +kernel
theorem dX11_parse_97 : decode cX11_parse 97 = .ok (.iconst 1, 1) := by decide +kernel
theorem dX11_parse_98 : decode cX11_parse 98 = .ok (.goto 4, 3) := by decide +kernel
theorem dX11_parse_101 : decode cX11_parse 101 = .ok (.iconst 0, 1) := by decide +kernel
theorem dX11_parse_102 : decode cX11_parse 102 = .ok (.istore 7, 2) := by decide +kernel
theorem dX11_parse_104 : decode cX11_parse 104 = .ok (.iload 5, 2) := by decide +kernel
theorem dX11_parse_106 : decode cX11_parse 106 = .ok (.ifCond .ge 11, 3) := by decide +kernel
theorem dX11_parse_109 : decode cX11_parse 109 = .ok (.aload_n 0, 1) := by decide +kernel
theorem dX11_parse_110 : decode cX11_parse 110 = .ok (.iload_n 1, 1) := by decide +kernel
theorem dX11_parse_111 : decode cX11_parse 111 = .ok (.invokevirtual 362, 3) := by decide +kernel
theorem dX11_parse_114 : decode cX11_parse 114 = .ok (.goto 183, 3) := by decide +kernel
theorem dX11_parse_117 : decode cX11_parse 117 = .ok (.iload 5, 2) := by decide +kernel
theorem dX11_parse_119 : decode cX11_parse 119 = .ok (.bipush 38, 2) := by decide +kernel
theorem dX11_parse_121 : decode cX11_parse 121 = .ok (.if_icmp .ne 13, 3) := by decide +kernel
theorem dX11_parse_124 : decode cX11_parse 124 = .ok (.aload_n 0, 1) := by decide +kernel
theorem dX11_parse_125 : decode cX11_parse 125 = .ok (.iload_n 1, 1) := by decide +kernel
theorem dX11_parse_126 : decode cX11_parse 126 = .ok (.iload_n 2, 1) := by decide +kernel
theorem dX11_parse_127 : decode cX11_parse 127 = .ok (.invokevirtual 383, 3) := by decide +kernel
theorem dX11_parse_130 : decode cX11_parse 130 = .ok (.istore_n 1, 1) := by decide +kernel
theorem dX11_parse_131 : decode cX11_parse 131 = .ok (.goto 166, 3) := by decide +kernel
theorem dX11_parse_134 : decode cX11_parse 134 = .ok (.iload 5, 2) := by decide +kernel
theorem dX11_parse_136 : decode cX11_parse 136 = .ok (.bipush 60, 2) := by decide +kernel
theorem dX11_parse_138 : decode cX11_parse 138 = .ok (.if_icmp .eq 16, 3) := by decide +kernel
theorem dX11_parse_141 : decode cX11_parse 141 = .ok (.aload_n 0, 1) := by decide +kernel
theorem dX11_parse_142 : decode cX11_parse 142 = .ok (.iload 5, 2) := by decide +kernel
theorem dX11_parse_144 : decode cX11_parse 144 = .ok (.iload_n 2, 1) := by decide +kernel
theorem dX11_parse_145 : decode cX11_parse 145 = .ok (.invokevirtual 365, 3) := by decide +kernel
theorem dX11_parse_148 : decode cX11_parse 148 = .ok (.iinc 1 1, 3) := by decide +kernel
theorem dX11_parse_151 : decode cX11_parse 151 = .ok (.goto 146, 3) := by decide +kernel
theorem dX11_parse_154 : decode cX11_parse 154 = .ok (.iload 6, 2) := by decide +kernel
theorem dX11_parse_156 : decode cX11_parse 156 = .ok (.bipush 47, 2) := by decide +kernel
theorem dX11_parse_158 : decode cX11_parse 158 = .ok (.if_icmp .ne 42, 3) := by decide +kernel
theorem dX11_parse_161 : decode cX11_parse 161 = .ok (.iload_n 2, 1) := by decide +kernel
theorem dX11_parse_162 : decode cX11_parse 162 = .ok (.bipush (-2), 2) := by decide +kernel
theorem dX11_parse_164 : decode cX11_parse 164 = .ok (.if_icmp .eq 36, 3) := by decide +kernel
theorem dX11_parse_167 : decode cX11_parse 167 = .ok (.aload_n 0, 1) := by decide +kernel
theorem dX11_parse_168 : decode cX11_parse 168 = .ok (.iload_n 1, 1) := by decide +kernel
theorem dX11_parse_169 : decode cX11_parse 169 = .ok (.iload_n 2, 1) := by decide +kernel
theorem dX11_parse_170 : decode cX11_parse 170 = .ok (.invokevirtual 401, 3) := by decide +kernel
theorem dX11_parse_173 : decode cX11_parse 173 = .ok (.istore_n 1, 1) := by decide +kernel
theorem dX11_parse_174 : decode cX11_parse 174 = .ok (.aload_n 0, 1) := by decide +kernel
theorem dX11_parse_175 : decode cX11_parse 175 = .ok (.getfield 114, 3) := by decide +kernel
theorem dX11_parse_178 : decode cX11_parse 178 = .ok (.iload_n 2, 1) := by decide +kernel
theorem dX11_parse_179 : decode cX11_parse 179 = .ok (.iaload, 1) := by decide +kernel
theorem dX11_parse_180 : decode cX11_parse 180 = .ok (.istore_n 2, 1) := by decide +kernel
theorem dX11_parse_181 : decode cX11_parse 181 = .ok (.iinc 3 (-1), 3) := by decide +kernel
theorem dX11_parse_184 : decode cX11_parse 184 = .ok (.iload_n 2, 1) := by decide +kernel
theorem dX11_parse_185 : decode cX11_parse 185 = .ok (.bipush (-2), 2) := by decide +kernel
theorem dX11_parse_187 : decode cX11_parse 187 = .ok (.if_icmp .eq 7, 3) := by decide +kernel
theorem dX11_parse_190 : decode cX11_parse 190 = .ok (.iconst 1, 1) := by decide +kernel
theorem dX11_parse_191 : decode cX11_parse 191 = .ok (.goto 4, 3) := by decide +kernel
theorem dX11_parse_194 : decode cX11_parse 194 = .ok (.iconst 0, 1) := by decide +kernel
theorem dX11_parse_195 : decode cX11_parse 195 = .ok (.istore 4, 2) := by decide +kernel
theorem dX11_parse_197 : decode cX11_parse 197 = .ok (.goto 100, 3) := by decide +kernel
theorem dX11_parse_200 : decode cX11_parse 200 = .ok (.iload 6, 2) := by decide +kernel
theorem dX11_parse_202 : decode cX11_parse 202 = .ok (.bipush 33, 2) := by decide +kernel
theorem dX11_parse_204 : decode cX11_parse 204 = .ok (.if_icmp .ne 21, 3) := by decide +kernel
theorem dX11_parse_207 : decode cX11_parse 207 = .ok (.iload_n 2, 1) := by decide +kernel
theorem dX11_parse_208 : decode cX11_parse 208 = .ok (.bipush (-2), 2) := by decide +kernel
theorem dX11_parse_210 : decode cX11_parse 210 = .ok (.if_icmp .eq 15, 3) := by decide +kernel
theorem dX11_parse_213 : decode cX11_parse 213 = .ok (.aload_n 0, 1) := by decide +kernel
theorem dX11_parse_214 : decode cX11_parse 214 = .ok (.iload_n 1, 1) := by decide +kernel
theorem dX11_parse_215 : decode cX11_parse 215 = .ok (.iload_n 2, 1) := by decide +kernel
theorem dX11_parse_216 : decode cX11_parse 216 = .ok (.iload 7, 2) := by decide +kernel
theorem dX11_parse_218 : decode cX11_parse 218 = .ok (.invokevirtual 404, 3) := by decide +kernel
theorem dX11_parse_221 : decode cX11_parse 221 = .ok (.istore_n 1, 1) := by decide +kernel
theorem dX11_parse_222 : decode cX11_parse 222 = .ok (.goto 75, 3) := by decide +kernel
theorem dX11_parse_225 : decode cX11_parse 225 = .ok (.iload 7, 2) := by decide +kernel
theorem dX11_parse_227 : decode cX11_parse 227 = .ok (.ifCond .eq 11, 3) := by decide +kernel
theorem dX11_parse_230 : decode cX11_parse 230 = .ok (.aload_n 0, 1) := by decide +kernel
theorem dX11_parse_231 : decode cX11_parse 231 = .ok (.iload_n 1, 1) := by decide +kernel
theorem dX11_parse_232 : decode cX11_parse 232 = .ok (.invokevirtual 362, 3) := by decide +kernel
theorem dX11_parse_235 : decode cX11_parse 235 = .ok (.goto 62, 3) := by decide +kernel
theorem dX11_parse_238 : decode cX11_parse 238 = .ok (.aload_n 0, 1) := by decide +kernel
theorem dX11_parse_239 : decode cX11_parse 239 = .ok (.iconst 0, 1) := by decide +kernel
theorem dX11_parse_240 : decode cX11_parse 240 = .ok (.putfield 395, 3) := by decide +kernel
theorem dX11_parse_243 : decode cX11_parse 243 = .ok (.aload_n 0, 1) := by decide +kernel
theorem dX11_parse_244 : decode cX11_parse 244 = .ok (.iload_n 1, 1) := by decide +kernel
theorem dX11_parse_245 : decode cX11_parse 245 = .ok (.iload_n 2, 1) := by decide +kernel
theorem dX11_parse_246 : decode cX11_parse 246 = .ok (.iload_n 3, 1) := by decide +kernel
theorem dX11_parse_247 : decode cX11_parse 247 = .ok (.invokevirtual 408, 3) := by decide +kernel
theorem dX11_parse_250 : decode cX11_parse 250 = .ok (.istore_n 1, 1) := by decide +kernel
theorem dX11_parse_251 : decode cX11_parse 251 = .ok (.aload_n 0, 1) := by decide +kernel
theorem dX11_parse_252 : decode cX11_parse 252 = .ok (.getfield 395, 3) := by decide +kernel
theorem dX11_parse_255 : decode cX11_parse 255 = .ok (.ifCond .eq 9, 3) := by decide +kernel
theorem dX11_parse_258 : decode cX11_parse 258 = .ok (.iload_n 3, 1) := by decide +kernel
theorem dX11_parse_259 : decode cX11_parse 259 = .ok (.iconst 1, 1) := by decide +kernel
theorem dX11_parse_260 : decode cX11_parse 260 = .ok (.iadd, 1) := by decide +kernel
theorem dX11_parse_261 : decode cX11_parse 261 = .ok (.goto 4, 3) := by decide +kernel
theorem dX11_parse_264 : decode cX11_parse 264 = .ok (.iload_n 3, 1) := by decide +kernel
theorem dX11_parse_265 : decode cX11_parse 265 = .ok (.istore_n 3, 1) := by decide +kernel
theorem dX11_parse_266 : decode cX11_parse 266 = .ok (.aload_n 0, 1) := by decide +kernel
theorem dX11_parse_267 : decode cX11_parse 267 = .ok (.getfield 395, 3) := by decide +kernel
theorem dX11_parse_270 : decode cX11_parse 270 = .ok (.ifCond .eq 12, 3) := by decide +kernel
theorem dX11_parse_273 : decode cX11_parse 273 = .ok (.aload_n 0, 1) := by decide +kernel
theorem dX11_parse_274 : decode cX11_parse 274 = .ok (.getfield 386, 3) := by decide +kernel
theorem dX11_parse_277 : decode cX11_parse 277 = .ok (.iconst 1, 1) := by decide +kernel
theorem dX11_parse_278 : decode cX11_parse 278 = .ok (.isub, 1) := by decide +kernel
theorem dX11_parse_279 : decode cX11_parse 279 = .ok (.goto 4, 3) := by decide +kernel
theorem dX11_parse_282 : decode cX11_parse 282 = .ok (.iload_n 2, 1) := by decide +kernel
theorem dX11_parse_283 : decode cX11_parse 283 = .ok (.istore_n 2, 1) := by decide +kernel
theorem dX11_parse_284 : decode cX11_parse 284 = .ok (.iload_n 2, 1) := by decide +kernel
theorem dX11_parse_285 : decode cX11_parse 285 = .ok (.bipush (-2), 2) := by decide +kernel
theorem dX11_parse_287 : decode cX11_parse 287 = .ok (.if_icmp .eq 7, 3) := by decide +kernel
theorem dX11_parse_290 : decode cX11_parse 290 = .ok (.iconst 1, 1) := by decide +kernel
theorem dX11_parse_291 : decode cX11_parse 291 = .ok (.goto 4, 3) := by decide +kernel
theorem dX11_parse_294 : decode cX11_parse 294 = .ok (.iconst 0, 1) := by decide +kernel
theorem dX11_parse_295 : decode cX11_parse 295 = .ok (.istore 4, 2) := by decide +kernel
theorem dX11_parse_297 : decode cX11_parse 297 = .ok (.goto (-246), 3) := by decide +kernel
theorem dX11_parse_300 : decode cX11_parse 300 = .ok (.aload_n 0, 1) := by decide +kernel
theorem dX11_parse_301 : decode cX11_parse 301 = .ok (.getfield 343, 3) := by decide +kernel
theorem dX11_parse_304 : decode cX11_parse 304 = .ok (.bipush (-2), 2) := by decide +kernel
theorem dX11_parse_306 : decode cX11_parse 306 = .ok (.if_icmp .eq 4, 3) := by decide +kernel
theorem dX11_parse_309 : decode cX11_parse 309 = .ok (.return_, 1) := by decide +kernel
theorem dX11_parse_310 : decode cX11_parse 310 = .ok (.aload_n 0, 1) := by decide +kernel
theorem dX11_parse_311 : decode cX11_parse 311 = .ok (.iload_n 1, 1) := by decide +kernel
theorem dX11_parse_312 : decode cX11_parse 312 = .ok (.invokevirtual 389, 3) := by decide +kernel
theorem dX11_parse_315 : decode cX11_parse 315 = .ok (.istore_n 1, 1) := by decide +kernel
theorem dX11_parse_316 : decode cX11_parse 316 = .ok (.iload_n 1, 1) := by decide +kernel
theorem dX11_parse_317 : decode cX11_parse 317 = .ok (.aload_n 0, 1) := by decide +kernel
theorem dX11_parse_318 : decode cX11_parse 318 = .ok (.getfield 340, 3) := by decide +kernel
theorem dX11_parse_321 : decode cX11_parse 321 = .ok (.if_icmp .ge 8, 3) := by decide +kernel
theorem dX11_parse_324 : decode cX11_parse 324 = .ok (.aload_n 0, 1) := by decide +kernel
theorem dX11_parse_325 : decode cX11_parse 325 = .ok (.iload_n 1, 1) := by decide +kernel
theorem dX11_parse_326 : decode cX11_parse 326 = .ok (.invokevirtual 362, 3) := by decide +kernel
theorem dX11_parse_329 : decode cX11_parse 329 = .ok (.return_, 1) := by decide +kernel
theorem dX11_hasChild_0 : decode cX11_hasChild 0 = .ok (.iload_n 1, 1) := by decide +kernel
theorem dX11_hasChild_1 : decode cX11_hasChild 1 = .ok (.iconst 1, 1) := by decide +kernel
theorem dX11_hasChild_2 : decode cX11_hasChild 2 = .ok (.iadd, 1) := by decide +kernel
theorem dX11_hasChild_3 : decode cX11_hasChild 3 = .ok (.aload_n 0, 1) := by decide +kernel
theorem dX11_hasChild_4 : decode cX11_hasChild 4 = .ok (.getfield 386, 3) := by decide +kernel
theorem dX11_hasChild_7 : decode cX11_hasChild 7 = .ok (.if_icmp .ge 19, 3) := by decide +kernel
theorem dX11_hasChild_10 : decode cX11_hasChild 10 = .ok (.aload_n 0, 1) := by decide +kernel
theorem dX11_hasChild_11 : decode cX11_hasChild 11 = .ok (.getfield 114, 3) := by decide +kernel
theorem dX11_hasChild_14 : decode cX11_hasChild 14 = .ok (.iload_n 1, 1) := by decide +kernel
theorem dX11_hasChild_15 : decode cX11_hasChild 15 = .ok (.iconst 1, 1) := by decide +kernel
theorem dX11_hasChild_16 : decode cX11_hasChild 16 = .ok (.iadd, 1) := by decide +kernel
theorem dX11_hasChild_17 : decode cX11_hasChild 17 = .ok (.iaload, 1) := by decide +kernel
theorem dX11_hasChild_18 : decode cX11_hasChild 18 = .ok (.iload_n 1, 1) := by decide +kernel
theorem dX11_hasChild_19 : decode cX11_hasChild 19 = .ok (.if_icmp .ne 7, 3) := by decide +kernel
theorem dX11_hasChild_22 : decode cX11_hasChild 22 = .ok (.iconst 1, 1) := by decide +kernel
theorem dX11_hasChild_23 : decode cX11_hasChild 23 = .ok (.goto 4, 3) := by decide +kernel
theorem dX11_hasChild_26 : decode cX11_hasChild 26 = .ok (.iconst 0, 1) := by decide +kernel
theorem dX11_hasChild_27 : decode cX11_hasChild 27 = .ok (.ireturn, 1) := by decide +kernel
theorem dX11_textSize_0 : decode cX11_textSize 0 = .ok (.iconst 0, 1) := by decide +kernel
theorem dX11_textSize_1 : decode cX11_textSize 1 = .ok (.istore_n 2, 1) := by decide +kernel
theorem dX11_textSize_2 : decode cX11_textSize 2 = .ok (.iconst 0, 1) := by decide +kernel
theorem dX11_textSize_3 : decode cX11_textSize 3 = .ok (.istore_n 3, 1) := by decide +kernel
theorem dX11_textSize_4 : decode cX11_textSize 4 = .ok (.iload_n 3, 1) := by decide +kernel
theorem dX11_textSize_5 : decode cX11_textSize 5 = .ok (.aload_n 0, 1) := by decide +kernel
theorem dX11_textSize_6 : decode cX11_textSize 6 = .ok (.getfield 355, 3) := by decide +kernel
theorem dX11_textSize_9 : decode cX11_textSize 9 = .ok (.if_icmp .ge 27, 3) := by decide +kernel
theorem dX11_textSize_12 : decode cX11_textSize 12 = .ok (.aload_n 0, 1) := by decide +kernel
theorem dX11_textSize_13 : decode cX11_textSize 13 = .ok (.getfield 141, 3) := by decide +kernel
theorem dX11_textSize_16 : decode cX11_textSize 16 = .ok (.iload_n 3, 1) := by decide +kernel
theorem dX11_textSize_17 : decode cX11_textSize 17 = .ok (.iaload, 1) := by decide +kernel
theorem dX11_textSize_18 : decode cX11_textSize 18 = .ok (.iload_n 1, 1) := by decide +kernel
theorem dX11_textSize_19 : decode cX11_textSize 19 = .ok (.if_icmp .ne 9, 3) := by decide +kernel
theorem dX11_textSize_22 : decode cX11_textSize 22 = .ok (.iload_n 2, 1) := by decide +kernel
theorem dX11_textSize_23 : decode cX11_textSize 23 = .ok (.iconst 1, 1) := by decide +kernel
theorem dX11_textSize_24 : decode cX11_textSize 24 = .ok (.iadd, 1) := by decide +kernel
theorem dX11_textSize_25 : decode cX11_textSize 25 = .ok (.goto 4, 3) := by decide +kernel
theorem dX11_textSize_28 : decode cX11_textSize 28 = .ok (.iload_n 2, 1) := by decide +kernel
theorem dX11_textSize_29 : decode cX11_textSize 29 = .ok (.istore_n 2, 1) := by decide +kernel
theorem dX11_textSize_30 : decode cX11_textSize 30 = .ok (.iinc 3 1, 3) := by decide +kernel
theorem dX11_textSize_33 : decode cX11_textSize 33 = .ok (.goto (-29), 3) := by decide +kernel
theorem dX11_textSize_36 : decode cX11_textSize 36 = .ok (.iload_n 2, 1) := by decide +kernel
theorem dX11_textSize_37 : decode cX11_textSize 37 = .ok (.ireturn, 1) := by decide +kernel
theorem dX11_isBlankWithin_0 : decode cX11_isBlankWithin 0 = .ok (.iconst 1, 1) := by decide +kernel
theorem dX11_isBlankWithin_1 : decode cX11_isBlankWithin 1 = .ok (.istore_n 2, 1) := by decide +kernel
theorem dX11_isBlankWithin_2 : decode cX11_isBlankWithin 2 = .ok (.iconst 0, 1) := by decide +kernel
theorem dX11_isBlankWithin_3 : decode cX11_isBlankWithin 3 = .ok (.istore_n 3, 1) := by decide +kernel
theorem dX11_isBlankWithin_4 : decode cX11_isBlankWithin 4 = .ok (.iload_n 3, 1) := by decide +kernel
theorem dX11_isBlankWithin_5 : decode cX11_isBlankWithin 5 = .ok (.aload_n 0, 1) := by decide +kernel
theorem dX11_isBlankWithin_6 : decode cX11_isBlankWithin 6 = .ok (.getfield 355, 3) := by decide +kernel
theorem dX11_isBlankWithin_9 : decode cX11_isBlankWithin 9 = .ok (.if_icmp .ge 41, 3) := by decide +kernel
theorem dX11_isBlankWithin_12 : decode cX11_isBlankWithin 12 = .ok (.iload_n 2, 1) := by decide +kernel
theorem dX11_isBlankWithin_13 : decode cX11_isBlankWithin 13 = .ok (.ifCond .eq 29, 3) := by decide +kernel
theorem dX11_isBlankWithin_16 : decode cX11_isBlankWithin 16 = .ok (.aload_n 0, 1) := by decide +kernel
theorem dX11_isBlankWithin_17 : decode cX11_isBlankWithin 17 = .ok (.getfield 141, 3) := by decide +kernel
theorem dX11_isBlankWithin_20 : decode cX11_isBlankWithin 20 = .ok (.iload_n 3, 1) := by decide +kernel
theorem dX11_isBlankWithin_21 : decode cX11_isBlankWithin 21 = .ok (.iaload, 1) := by decide +kernel
theorem dX11_isBlankWithin_22 : decode cX11_isBlankWithin 22 = .ok (.iload_n 1, 1) := by decide +kernel
theorem dX11_isBlankWithin_23 : decode cX11_isBlankWithin 23 = .ok (.if_icmp .ne 15, 3) := by decide +kernel
theorem dX11_isBlankWithin_26 : decode cX11_isBlankWithin 26 = .ok (.aload_n 0, 1) := by decide +kernel
theorem dX11_isBlankWithin_27 : decode cX11_isBlankWithin 27 = .ok (.getfield 138, 3) := by decide +kernel
theorem dX11_isBlankWithin_30 : decode cX11_isBlankWithin 30 = .ok (.iload_n 3, 1) := by decide +kernel
theorem dX11_isBlankWithin_31 : decode cX11_isBlankWithin 31 = .ok (.iaload, 1) := by decide +kernel
theorem dX11_isBlankWithin_32 : decode cX11_isBlankWithin 32 = .ok (.invokestatic 178, 3) := by decide +kernel
theorem dX11_isBlankWithin_35 : decode cX11_isBlankWithin 35 = .ok (.ifCond .eq 7, 3) := by decide +kernel
theorem dX11_isBlankWithin_38 : decode cX11_isBlankWithin 38 = .ok (.iconst 1, 1) := by decide +kernel
theorem dX11_isBlankWithin_39 : decode cX11_isBlankWithin 39 = .ok (.goto 4, 3) := by decide +kernel
theorem dX11_isBlankWithin_42 : decode cX11_isBlankWithin 42 = .ok (.iconst 0, 1) := by decide +kernel
theorem dX11_isBlankWithin_43 : decode cX11_isBlankWithin 43 = .ok (.istore_n 2, 1) := by decide +kernel
theorem dX11_isBlankWithin_44 : decode cX11_isBlankWithin 44 = .ok (.iinc 3 1, 3) := by decide +kernel
theorem dX11_isBlankWithin_47 : decode cX11_isBlankWithin 47 = .ok (.goto (-43), 3) := by decide +kernel
theorem dX11_isBlankWithin_50 : decode cX11_isBlankWithin 50 = .ok (.iload_n 2, 1) := by decide +kernel
theorem dX11_isBlankWithin_51 : decode cX11_isBlankWithin 51 = .ok (.ireturn, 1) := by decide +kernel
theorem dX11_writtenSign_0 : decode cX11_writtenSign 0 = .ok (.iconst 0, 1) := by decide +kernel
theorem dX11_writtenSign_1 : decode cX11_writtenSign 1 = .ok (.istore_n 3, 1) := by decide +kernel
theorem dX11_writtenSign_2 : decode cX11_writtenSign 2 = .ok (.iconst 0, 1) := by decide +kernel
theorem dX11_writtenSign_3 : decode cX11_writtenSign 3 = .ok (.istore 4, 2) := by decide +kernel
theorem dX11_writtenSign_5 : decode cX11_writtenSign 5 = .ok (.iload 4, 2) := by decide +kernel
theorem dX11_writtenSign_7 : decode cX11_writtenSign 7 = .ok (.aload_n 0, 1) := by decide +kernel
theorem dX11_writtenSign_8 : decode cX11_writtenSign 8 = .ok (.getfield 16, 3) := by decide +kernel
theorem dX11_writtenSign_11 : decode cX11_writtenSign 11 = .ok (.iload_n 1, 1) := by decide +kernel
theorem dX11_writtenSign_12 : decode cX11_writtenSign 12 = .ok (.iaload, 1) := by decide +kernel
theorem dX11_writtenSign_13 : decode cX11_writtenSign 13 = .ok (.if_icmp .ge 104, 3) := by decide +kernel
theorem dX11_writtenSign_16 : decode cX11_writtenSign 16 = .ok (.aload_n 0, 1) := by decide +kernel
theorem dX11_writtenSign_17 : decode cX11_writtenSign 17 = .ok (.getfield 19, 3) := by decide +kernel
theorem dX11_writtenSign_20 : decode cX11_writtenSign 20 = .ok (.bipush 8, 2) := by decide +kernel
theorem dX11_writtenSign_22 : decode cX11_writtenSign 22 = .ok (.iload_n 1, 1) := by decide +kernel
theorem dX11_writtenSign_23 : decode cX11_writtenSign 23 = .ok (.imul, 1) := by decide +kernel
theorem dX11_writtenSign_24 : decode cX11_writtenSign 24 = .ok (.iload 4, 2) := by decide +kernel
theorem dX11_writtenSign_26 : decode cX11_writtenSign 26 = .ok (.iadd, 1) := by decide +kernel
theorem dX11_writtenSign_27 : decode cX11_writtenSign 27 = .ok (.iaload, 1) := by decide +kernel
theorem dX11_writtenSign_28 : decode cX11_writtenSign 28 = .ok (.istore 5, 2) := by decide +kernel
theorem dX11_writtenSign_30 : decode cX11_writtenSign 30 = .ok (.iload 5, 2) := by decide +kernel
theorem dX11_writtenSign_32 : decode cX11_writtenSign 32 = .ok (.bipush 95, 2) := by decide +kernel
theorem dX11_writtenSign_34 : decode cX11_writtenSign 34 = .ok (.if_icmp .eq 10, 3) := by decide +kernel
theorem dX11_writtenSign_37 : decode cX11_writtenSign 37 = .ok (.iload 5, 2) := by decide +kernel
theorem dX11_writtenSign_39 : decode cX11_writtenSign 39 = .ok (.bipush 36, 2) := by decide +kernel
theorem dX11_writtenSign_41 : decode cX11_writtenSign 41 = .ok (.if_icmp .ne 7, 3) := by decide +kernel
theorem dX11_writtenSign_44 : decode cX11_writtenSign 44 = .ok (.iconst 1, 1) := by decide +kernel
theorem dX11_writtenSign_45 : decode cX11_writtenSign 45 = .ok (.goto 4, 3) := by decide +kernel
theorem dX11_writtenSign_48 : decode cX11_writtenSign 48 = .ok (.iconst 0, 1) := by decide +kernel
theorem dX11_writtenSign_49 : decode cX11_writtenSign 49 = .ok (.istore 6, 2) := by decide +kernel
theorem dX11_writtenSign_51 : decode cX11_writtenSign 51 = .ok (.iload_n 3, 1) := by decide +kernel
theorem dX11_writtenSign_52 : decode cX11_writtenSign 52 = .ok (.iload_n 2, 1) := by decide +kernel
theorem dX11_writtenSign_53 : decode cX11_writtenSign 53 = .ok (.if_icmp .ne 16, 3) := by decide +kernel
theorem dX11_writtenSign_56 : decode cX11_writtenSign 56 = .ok (.iload 6, 2) := by decide +kernel
theorem dX11_writtenSign_58 : decode cX11_writtenSign 58 = .ok (.ifCond .eq 8, 3) := by decide +kernel
theorem dX11_writtenSign_61 : decode cX11_writtenSign 61 = .ok (.bipush 95, 2) := by decide +kernel
theorem dX11_writtenSign_63 : decode cX11_writtenSign 63 = .ok (.goto 5, 3) := by decide +kernel
theorem dX11_writtenSign_66 : decode cX11_writtenSign 66 = .ok (.iload 5, 2) := by decide +kernel
theorem dX11_writtenSign_68 : decode cX11_writtenSign 68 = .ok (.ireturn, 1) := by decide +kernel
theorem dX11_writtenSign_69 : decode cX11_writtenSign 69 = .ok (.iload 6, 2) := by decide +kernel
theorem dX11_writtenSign_71 : decode cX11_writtenSign 71 = .ok (.ifCond .eq 25, 3) := by decide +kernel
theorem dX11_writtenSign_74 : decode cX11_writtenSign 74 = .ok (.iload_n 3, 1) := by decide +kernel
theorem dX11_writtenSign_75 : decode cX11_writtenSign 75 = .ok (.iconst 1, 1) := by decide +kernel
theorem dX11_writtenSign_76 : decode cX11_writtenSign 76 = .ok (.iadd, 1) := by decide +kernel
theorem dX11_writtenSign_77 : decode cX11_writtenSign 77 = .ok (.iload_n 2, 1) := by decide +kernel
theorem dX11_writtenSign_78 : decode cX11_writtenSign 78 = .ok (.if_icmp .ne 18, 3) := by decide +kernel
theorem dX11_writtenSign_81 : decode cX11_writtenSign 81 = .ok (.iload 5, 2) := by decide +kernel
theorem dX11_writtenSign_83 : decode cX11_writtenSign 83 = .ok (.bipush 95, 2) := by decide +kernel
theorem dX11_writtenSign_85 : decode cX11_writtenSign 85 = .ok (.if_icmp .ne 8, 3) := by decide +kernel
theorem dX11_writtenSign_88 : decode cX11_writtenSign 88 = .ok (.bipush 95, 2) := by decide +kernel
theorem dX11_writtenSign_90 : decode cX11_writtenSign 90 = .ok (.goto 5, 3) := by decide +kernel
theorem dX11_writtenSign_93 : decode cX11_writtenSign 93 = .ok (.bipush 45, 2) := by decide +kernel
theorem dX11_writtenSign_95 : decode cX11_writtenSign 95 = .ok (.ireturn, 1) := by decide +kernel
theorem dX11_writtenSign_96 : decode cX11_writtenSign 96 = .ok (.iload 6, 2) := by decide +kernel
theorem dX11_writtenSign_98 : decode cX11_writtenSign 98 = .ok (.ifCond .eq 9, 3) := by decide +kernel
theorem dX11_writtenSign_101 : decode cX11_writtenSign 101 = .ok (.iload_n 3, 1) := by decide +kernel
theorem dX11_writtenSign_102 : decode cX11_writtenSign 102 = .ok (.iconst 2, 1) := by decide +kernel
theorem dX11_writtenSign_103 : decode cX11_writtenSign 103 = .ok (.iadd, 1) := by decide +kernel
theorem dX11_writtenSign_104 : decode cX11_writtenSign 104 = .ok (.goto 6, 3) := by decide +kernel
theorem dX11_writtenSign_107 : decode cX11_writtenSign 107 = .ok (.iload_n 3, 1) := by decide +kernel
theorem dX11_writtenSign_108 : decode cX11_writtenSign 108 = .ok (.iconst 1, 1) := by decide +kernel
theorem dX11_writtenSign_109 : decode cX11_writtenSign 109 = .ok (.iadd, 1) := by decide +kernel
theorem dX11_writtenSign_110 : decode cX11_writtenSign 110 = .ok (.istore_n 3, 1) := by decide +kernel
theorem dX11_writtenSign_111 : decode cX11_writtenSign 111 = .ok (.iinc 4 1, 3) := by decide +kernel
theorem dX11_writtenSign_114 : decode cX11_writtenSign 114 = .ok (.goto (-109), 3) := by decide +kernel
theorem dX11_writtenSign_117 : decode cX11_writtenSign 117 = .ok (.iconst 0, 1) := by decide +kernel
theorem dX11_writtenSign_118 : decode cX11_writtenSign 118 = .ok (.ireturn, 1) := by decide +kernel
theorem dX11_isNamed_0 : decode cX11_isNamed 0 = .ok (.aload_n 0, 1) := by decide +kernel
theorem dX11_isNamed_1 : decode cX11_isNamed 1 = .ok (.iload_n 3, 1) := by decide +kernel
theorem dX11_isNamed_2 : decode cX11_isNamed 2 = .ok (.iload_n 2, 1) := by decide +kernel
theorem dX11_isNamed_3 : decode cX11_isNamed 3 = .ok (.invokevirtual 411, 3) := by decide +kernel
theorem dX11_isNamed_6 : decode cX11_isNamed 6 = .ok (.ifCond .ne 7, 3) := by decide +kernel
theorem dX11_isNamed_9 : decode cX11_isNamed 9 = .ok (.iconst 1, 1) := by decide +kernel
theorem dX11_isNamed_10 : decode cX11_isNamed 10 = .ok (.goto 4, 3) := by decide +kernel
theorem dX11_isNamed_13 : decode cX11_isNamed 13 = .ok (.iconst 0, 1) := by decide +kernel
theorem dX11_isNamed_14 : decode cX11_isNamed 14 = .ok (.istore 4, 2) := by decide +kernel
theorem dX11_isNamed_16 : decode cX11_isNamed 16 = .ok (.iconst 0, 1) := by decide +kernel
theorem dX11_isNamed_17 : decode cX11_isNamed 17 = .ok (.istore 5, 2) := by decide +kernel
theorem dX11_isNamed_19 : decode cX11_isNamed 19 = .ok (.iload 5, 2) := by decide +kernel
theorem dX11_isNamed_21 : decode cX11_isNamed 21 = .ok (.iload_n 2, 1) := by decide +kernel
theorem dX11_isNamed_22 : decode cX11_isNamed 22 = .ok (.if_icmp .ge 40, 3) := by decide +kernel
theorem dX11_isNamed_25 : decode cX11_isNamed 25 = .ok (.iload 4, 2) := by decide +kernel
theorem dX11_isNamed_27 : decode cX11_isNamed 27 = .ok (.ifCond .eq 35, 3) := by decide +kernel
theorem dX11_isNamed_30 : decode cX11_isNamed 30 = .ok (.aload_n 0, 1) := by decide +kernel
theorem dX11_isNamed_31 : decode cX11_isNamed 31 = .ok (.getfield 102, 3) := by decide +kernel
theorem dX11_isNamed_34 : decode cX11_isNamed 34 = .ok (.iload_n 1, 1) := by decide +kernel
theorem dX11_isNamed_35 : decode cX11_isNamed 35 = .ok (.iload 5, 2) := by decide +kernel
theorem dX11_isNamed_37 : decode cX11_isNamed 37 = .ok (.iadd, 1) := by decide +kernel
theorem dX11_isNamed_38 : decode cX11_isNamed 38 = .ok (.iaload, 1) := by decide +kernel
theorem dX11_isNamed_39 : decode cX11_isNamed 39 = .ok (.aload_n 0, 1) := by decide +kernel
theorem dX11_isNamed_40 : decode cX11_isNamed 40 = .ok (.iload_n 3, 1) := by decide +kernel
theorem dX11_isNamed_41 : decode cX11_isNamed 41 = .ok (.iload 5, 2) := by decide +kernel
theorem dX11_isNamed_43 : decode cX11_isNamed 43 = .ok (.invokevirtual 411, 3) := by decide +kernel
theorem dX11_isNamed_46 : decode cX11_isNamed 46 = .ok (.if_icmp .ne 7, 3) := by decide +kernel
theorem dX11_isNamed_49 : decode cX11_isNamed 49 = .ok (.iconst 1, 1) := by decide +kernel
theorem dX11_isNamed_50 : decode cX11_isNamed 50 = .ok (.goto 4, 3) := by decide +kernel
theorem dX11_isNamed_53 : decode cX11_isNamed 53 = .ok (.iconst 0, 1) := by decide +kernel
theorem dX11_isNamed_54 : decode cX11_isNamed 54 = .ok (.istore 4, 2) := by decide +kernel
theorem dX11_isNamed_56 : decode cX11_isNamed 56 = .ok (.iinc 5 1, 3) := by decide +kernel
theorem dX11_isNamed_59 : decode cX11_isNamed 59 = .ok (.goto (-40), 3) := by decide +kernel
theorem dX11_isNamed_62 : decode cX11_isNamed 62 = .ok (.iload 4, 2) := by decide +kernel
theorem dX11_isNamed_64 : decode cX11_isNamed 64 = .ok (.ireturn, 1) := by decide +kernel
theorem dX11_classNamed_0 : decode cX11_classNamed 0 = .ok (.bipush (-2), 2) := by decide +kernel
theorem dX11_classNamed_2 : decode cX11_classNamed 2 = .ok (.istore_n 3, 1) := by decide +kernel
theorem dX11_classNamed_3 : decode cX11_classNamed 3 = .ok (.iconst 0, 1) := by decide +kernel
theorem dX11_classNamed_4 : decode cX11_classNamed 4 = .ok (.istore 4, 2) := by decide +kernel
theorem dX11_classNamed_6 : decode cX11_classNamed 6 = .ok (.iload 4, 2) := by decide +kernel
theorem dX11_classNamed_8 : decode cX11_classNamed 8 = .ok (.aload_n 0, 1) := by decide +kernel
theorem dX11_classNamed_9 : decode cX11_classNamed 9 = .ok (.getfield 238, 3) := by decide +kernel
theorem dX11_classNamed_12 : decode cX11_classNamed 12 = .ok (.if_icmp .ge 37, 3) := by decide +kernel
theorem dX11_classNamed_15 : decode cX11_classNamed 15 = .ok (.aload_n 0, 1) := by decide +kernel
theorem dX11_classNamed_16 : decode cX11_classNamed 16 = .ok (.getfield 29, 3) := by decide +kernel
theorem dX11_classNamed_19 : decode cX11_classNamed 19 = .ok (.iload 4, 2) := by decide +kernel
theorem dX11_classNamed_21 : decode cX11_classNamed 21 = .ok (.baload, 1) := by decide +kernel
theorem dX11_classNamed_22 : decode cX11_classNamed 22 = .ok (.ifCond .ne 19, 3) := by decide +kernel
theorem dX11_classNamed_25 : decode cX11_classNamed 25 = .ok (.aload_n 0, 1) := by decide +kernel
theorem dX11_classNamed_26 : decode cX11_classNamed 26 = .ok (.iload_n 1, 1) := by decide +kernel
theorem dX11_classNamed_27 : decode cX11_classNamed 27 = .ok (.iload_n 2, 1) := by decide +kernel
theorem dX11_classNamed_28 : decode cX11_classNamed 28 = .ok (.iload 4, 2) := by decide +kernel
theorem dX11_classNamed_30 : decode cX11_classNamed 30 = .ok (.invokevirtual 414, 3) := by decide +kernel
theorem dX11_classNamed_33 : decode cX11_classNamed 33 = .ok (.ifCond .eq 8, 3) := by decide +kernel
theorem dX11_classNamed_36 : decode cX11_classNamed 36 = .ok (.iload 4, 2) := by decide +kernel
theorem dX11_classNamed_38 : decode cX11_classNamed 38 = .ok (.goto 4, 3) := by decide +kernel
theorem dX11_classNamed_41 : decode cX11_classNamed 41 = .ok (.iload_n 3, 1) := by decide +kernel
theorem dX11_classNamed_42 : decode cX11_classNamed 42 = .ok (.istore_n 3, 1) := by decide +kernel
theorem dX11_classNamed_43 : decode cX11_classNamed 43 = .ok (.iinc 4 1, 3) := by decide +kernel
theorem dX11_classNamed_46 : decode cX11_classNamed 46 = .ok (.goto (-40), 3) := by decide +kernel
theorem dX11_classNamed_49 : decode cX11_classNamed 49 = .ok (.iload_n 3, 1) := by decide +kernel
theorem dX11_classNamed_50 : decode cX11_classNamed 50 = .ok (.ireturn, 1) := by decide +kernel
theorem dX11_fieldNamed_0 : decode cX11_fieldNamed 0 = .ok (.bipush (-2), 2) := by decide +kernel
theorem dX11_fieldNamed_2 : decode cX11_fieldNamed 2 = .ok (.istore 5, 2) := by decide +kernel
theorem dX11_fieldNamed_4 : decode cX11_fieldNamed 4 = .ok (.iconst 0, 1) := by decide +kernel
theorem dX11_fieldNamed_5 : decode cX11_fieldNamed 5 = .ok (.istore 6, 2) := by decide +kernel
theorem dX11_fieldNamed_7 : decode cX11_fieldNamed 7 = .ok (.iload 6, 2) := by decide +kernel
theorem dX11_fieldNamed_9 : decode cX11_fieldNamed 9 = .ok (.aload_n 0, 1) := by decide +kernel
theorem dX11_fieldNamed_10 : decode cX11_fieldNamed 10 = .ok (.getfield 13, 3) := by decide +kernel
theorem dX11_fieldNamed_13 : decode cX11_fieldNamed 13 = .ok (.iload_n 1, 1) := by decide +kernel
theorem dX11_fieldNamed_14 : decode cX11_fieldNamed 14 = .ok (.iaload, 1) := by decide +kernel
theorem dX11_fieldNamed_15 : decode cX11_fieldNamed 15 = .ok (.if_icmp .ge 96, 3) := by decide +kernel
theorem dX11_fieldNamed_18 : decode cX11_fieldNamed 18 = .ok (.iconst 4, 1) := by decide +kernel
theorem dX11_fieldNamed_19 : decode cX11_fieldNamed 19 = .ok (.iload_n 1, 1) := by decide +kernel
theorem dX11_fieldNamed_20 : decode cX11_fieldNamed 20 = .ok (.imul, 1) := by decide +kernel
theorem dX11_fieldNamed_21 : decode cX11_fieldNamed 21 = .ok (.iload 6, 2) := by decide +kernel
theorem dX11_fieldNamed_23 : decode cX11_fieldNamed 23 = .ok (.iadd, 1) := by decide +kernel
theorem dX11_fieldNamed_24 : decode cX11_fieldNamed 24 = .ok (.istore 7, 2) := by decide +kernel
theorem dX11_fieldNamed_26 : decode cX11_fieldNamed 26 = .ok (.iload 4, 2) := by decide +kernel
theorem dX11_fieldNamed_28 : decode cX11_fieldNamed 28 = .ok (.ifCond .eq 32, 3) := by decide +kernel
theorem dX11_fieldNamed_31 : decode cX11_fieldNamed 31 = .ok (.aload_n 0, 1) := by decide +kernel
theorem dX11_fieldNamed_32 : decode cX11_fieldNamed 32 = .ok (.getfield 22, 3) := by decide +kernel
theorem dX11_fieldNamed_35 : decode cX11_fieldNamed 35 = .ok (.iload 7, 2) := by decide +kernel
theorem dX11_fieldNamed_37 : decode cX11_fieldNamed 37 = .ok (.iaload, 1) := by decide +kernel
theorem dX11_fieldNamed_38 : decode cX11_fieldNamed 38 = .ok (.iconst 1, 1) := by decide +kernel
theorem dX11_fieldNamed_39 : decode cX11_fieldNamed 39 = .ok (.if_icmp .gt 17, 3) := by decide +kernel
theorem dX11_fieldNamed_42 : decode cX11_fieldNamed 42 = .ok (.aload_n 0, 1) := by decide +kernel
theorem dX11_fieldNamed_43 : decode cX11_fieldNamed 43 = .ok (.getfield 25, 3) := by decide +kernel
theorem dX11_fieldNamed_46 : decode cX11_fieldNamed 46 = .ok (.iload 7, 2) := by decide +kernel
theorem dX11_fieldNamed_48 : decode cX11_fieldNamed 48 = .ok (.baload, 1) := by decide +kernel
theorem dX11_fieldNamed_49 : decode cX11_fieldNamed 49 = .ok (.ifCond .eq 7, 3) := by decide +kernel
theorem dX11_fieldNamed_52 : decode cX11_fieldNamed 52 = .ok (.iconst 1, 1) := by decide +kernel
theorem dX11_fieldNamed_53 : decode cX11_fieldNamed 53 = .ok (.goto 22, 3) := by decide +kernel
theorem dX11_fieldNamed_56 : decode cX11_fieldNamed 56 = .ok (.iconst 0, 1) := by decide +kernel
theorem dX11_fieldNamed_57 : decode cX11_fieldNamed 57 = .ok (.goto 18, 3) := by decide +kernel
theorem dX11_fieldNamed_60 : decode cX11_fieldNamed 60 = .ok (.aload_n 0, 1) := by decide +kernel
theorem dX11_fieldNamed_61 : decode cX11_fieldNamed 61 = .ok (.getfield 25, 3) := by decide +kernel
theorem dX11_fieldNamed_64 : decode cX11_fieldNamed 64 = .ok (.iload 7, 2) := by decide +kernel
theorem dX11_fieldNamed_66 : decode cX11_fieldNamed 66 = .ok (.baload, 1) := by decide +kernel
theorem dX11_fieldNamed_67 : decode cX11_fieldNamed 67 = .ok (.ifCond .ne 7, 3) := by decide +kernel
theorem dX11_fieldNamed_70 : decode cX11_fieldNamed 70 = .ok (.iconst 1, 1) := by decide +kernel
theorem dX11_fieldNamed_71 : decode cX11_fieldNamed 71 = .ok (.goto 4, 3) := by decide +kernel
theorem dX11_fieldNamed_74 : decode cX11_fieldNamed 74 = .ok (.iconst 0, 1) := by decide +kernel
theorem dX11_fieldNamed_75 : decode cX11_fieldNamed 75 = .ok (.istore 8, 2) := by decide +kernel
theorem dX11_fieldNamed_77 : decode cX11_fieldNamed 77 = .ok (.iload 8, 2) := by decide +kernel
theorem dX11_fieldNamed_79 : decode cX11_fieldNamed 79 = .ok (.ifCond .eq 22, 3) := by decide +kernel
theorem dX11_fieldNamed_82 : decode cX11_fieldNamed 82 = .ok (.aload_n 0, 1) := by decide +kernel
theorem dX11_fieldNamed_83 : decode cX11_fieldNamed 83 = .ok (.iload_n 2, 1) := by decide +kernel
theorem dX11_fieldNamed_84 : decode cX11_fieldNamed 84 = .ok (.iload_n 3, 1) := by decide +kernel
theorem dX11_fieldNamed_85 : decode cX11_fieldNamed 85 = .ok (.bipush 6, 2) := by decide +kernel
theorem dX11_fieldNamed_87 : decode cX11_fieldNamed 87 = .ok (.iload 7, 2) := by decide +kernel
theorem dX11_fieldNamed_89 : decode cX11_fieldNamed 89 = .ok (.iadd, 1) := by decide +kernel
theorem dX11_fieldNamed_90 : decode cX11_fieldNamed 90 = .ok (.invokevirtual 414, 3) := by decide +kernel
theorem dX11_fieldNamed_93 : decode cX11_fieldNamed 93 = .ok (.ifCond .eq 8, 3) := by decide +kernel
theorem dX11_fieldNamed_96 : decode cX11_fieldNamed 96 = .ok (.iload 6, 2) := by decide +kernel
theorem dX11_fieldNamed_98 : decode cX11_fieldNamed 98 = .ok (.goto 5, 3) := by decide +kernel
theorem dX11_fieldNamed_101 : decode cX11_fieldNamed 101 = .ok (.iload 5, 2) := by decide +kernel
theorem dX11_fieldNamed_103 : decode cX11_fieldNamed 103 = .ok (.istore 5, 2) := by decide +kernel
theorem dX11_fieldNamed_105 : decode cX11_fieldNamed 105 = .ok (.iinc 6 1, 3) := by decide +kernel
theorem dX11_fieldNamed_108 : decode cX11_fieldNamed 108 = .ok (.goto (-101), 3) := by decide +kernel
theorem dX11_fieldNamed_111 : decode cX11_fieldNamed 111 = .ok (.iload 5, 2) := by decide +kernel
theorem dX11_fieldNamed_113 : decode cX11_fieldNamed 113 = .ok (.ireturn, 1) := by decide +kernel
theorem dX11_implicitOf_0 : decode cX11_implicitOf 0 = .ok (.bipush (-2), 2) := by decide +kernel
theorem dX11_implicitOf_2 : decode cX11_implicitOf 2 = .ok (.istore_n 2, 1) := by decide +kernel
theorem dX11_implicitOf_3 : decode cX11_implicitOf 3 = .ok (.iconst 0, 1) := by decide +kernel
theorem dX11_implicitOf_4 : decode cX11_implicitOf 4 = .ok (.istore_n 3, 1) := by decide +kernel
theorem dX11_implicitOf_5 : decode cX11_implicitOf 5 = .ok (.iload_n 3, 1) := by decide +kernel
theorem dX11_implicitOf_6 : decode cX11_implicitOf 6 = .ok (.aload_n 0, 1) := by decide +kernel
theorem dX11_implicitOf_7 : decode cX11_implicitOf 7 = .ok (.getfield 13, 3) := by decide +kernel
theorem dX11_implicitOf_10 : decode cX11_implicitOf 10 = .ok (.iload_n 1, 1) := by decide +kernel
theorem dX11_implicitOf_11 : decode cX11_implicitOf 11 = .ok (.iaload, 1) := by decide +kernel
theorem dX11_implicitOf_12 : decode cX11_implicitOf 12 = .ok (.if_icmp .ge 42, 3) := by decide +kernel
theorem dX11_implicitOf_15 : decode cX11_implicitOf 15 = .ok (.aload_n 0, 1) := by decide +kernel
theorem dX11_implicitOf_16 : decode cX11_implicitOf 16 = .ok (.getfield 22, 3) := by decide +kernel
theorem dX11_implicitOf_19 : decode cX11_implicitOf 19 = .ok (.iconst 4, 1) := by decide +kernel
theorem dX11_implicitOf_20 : decode cX11_implicitOf 20 = .ok (.iload_n 1, 1) := by decide +kernel
theorem dX11_implicitOf_21 : decode cX11_implicitOf 21 = .ok (.imul, 1) := by decide +kernel
theorem dX11_implicitOf_22 : decode cX11_implicitOf 22 = .ok (.iload_n 3, 1) := by decide +kernel
theorem dX11_implicitOf_23 : decode cX11_implicitOf 23 = .ok (.iadd, 1) := by decide +kernel
theorem dX11_implicitOf_24 : decode cX11_implicitOf 24 = .ok (.iaload, 1) := by decide +kernel
theorem dX11_implicitOf_25 : decode cX11_implicitOf 25 = .ok (.iconst 3, 1) := by decide +kernel
theorem dX11_implicitOf_26 : decode cX11_implicitOf 26 = .ok (.if_icmp .ne 20, 3) := by decide +kernel
theorem dX11_implicitOf_29 : decode cX11_implicitOf 29 = .ok (.aload_n 0, 1) := by decide +kernel
theorem dX11_implicitOf_30 : decode cX11_implicitOf 30 = .ok (.getfield 25, 3) := by decide +kernel
theorem dX11_implicitOf_33 : decode cX11_implicitOf 33 = .ok (.iconst 4, 1) := by decide +kernel
theorem dX11_implicitOf_34 : decode cX11_implicitOf 34 = .ok (.iload_n 1, 1) := by decide +kernel
theorem dX11_implicitOf_35 : decode cX11_implicitOf 35 = .ok (.imul, 1) := by decide +kernel
theorem dX11_implicitOf_36 : decode cX11_implicitOf 36 = .ok (.iload_n 3, 1) := by decide +kernel
theorem dX11_implicitOf_37 : decode cX11_implicitOf 37 = .ok (.iadd, 1) := by decide +kernel
theorem dX11_implicitOf_38 : decode cX11_implicitOf 38 = .ok (.baload, 1) := by decide +kernel
theorem dX11_implicitOf_39 : decode cX11_implicitOf 39 = .ok (.ifCond .eq 7, 3) := by decide +kernel
theorem dX11_implicitOf_42 : decode cX11_implicitOf 42 = .ok (.iload_n 3, 1) := by decide +kernel
theorem dX11_implicitOf_43 : decode cX11_implicitOf 43 = .ok (.goto 4, 3) := by decide +kernel
theorem dX11_implicitOf_46 : decode cX11_implicitOf 46 = .ok (.iload_n 2, 1) := by decide +kernel
theorem dX11_implicitOf_47 : decode cX11_implicitOf 47 = .ok (.istore_n 2, 1) := by decide +kernel
theorem dX11_implicitOf_48 : decode cX11_implicitOf 48 = .ok (.iinc 3 1, 3) := by decide +kernel
theorem dX11_implicitOf_51 : decode cX11_implicitOf 51 = .ok (.goto (-46), 3) := by decide +kernel
theorem dX11_implicitOf_54 : decode cX11_implicitOf 54 = .ok (.iload_n 2, 1) := by decide +kernel
theorem dX11_implicitOf_55 : decode cX11_implicitOf 55 = .ok (.ireturn, 1) := by decide +kernel
theorem dX11_wordSign_0 : decode cX11_wordSign 0 = .ok (.iload_n 0, 1) := by decide +kernel
theorem dX11_wordSign_1 : decode cX11_wordSign 1 = .ok (.ifCond .ne 44, 3) := by decide +kernel
theorem dX11_wordSign_4 : decode cX11_wordSign 4 = .ok (.iload_n 1, 1) := by decide +kernel
theorem dX11_wordSign_5 : decode cX11_wordSign 5 = .ok (.ifCond .ne 8, 3) := by decide +kernel
theorem dX11_wordSign_8 : decode cX11_wordSign 8 = .ok (.bipush 99, 2) := by decide +kernel
theorem dX11_wordSign_10 : decode cX11_wordSign 10 = .ok (.goto 34, 3) := by decide +kernel
theorem dX11_wordSign_13 : decode cX11_wordSign 13 = .ok (.iload_n 1, 1) := by decide +kernel
theorem dX11_wordSign_14 : decode cX11_wordSign 14 = .ok (.iconst 1, 1) := by decide +kernel
theorem dX11_wordSign_15 : decode cX11_wordSign 15 = .ok (.if_icmp .ne 8, 3) := by decide +kernel
theorem dX11_wordSign_18 : decode cX11_wordSign 18 = .ok (.bipush 108, 2) := by decide +kernel
theorem dX11_wordSign_20 : decode cX11_wordSign 20 = .ok (.goto 24, 3) := by decide +kernel
theorem dX11_wordSign_23 : decode cX11_wordSign 23 = .ok (.iload_n 1, 1) := by decide +kernel
theorem dX11_wordSign_24 : decode cX11_wordSign 24 = .ok (.iconst 2, 1) := by decide +kernel
theorem dX11_wordSign_25 : decode cX11_wordSign 25 = .ok (.if_icmp .ne 8, 3) := by decide +kernel
theorem dX11_wordSign_28 : decode cX11_wordSign 28 = .ok (.bipush 97, 2) := by decide +kernel
theorem dX11_wordSign_30 : decode cX11_wordSign 30 = .ok (.goto 14, 3) := by decide +kernel
theorem dX11_wordSign_33 : decode cX11_wordSign 33 = .ok (.iload_n 1, 1) := by decide +kernel
theorem dX11_wordSign_34 : decode cX11_wordSign 34 = .ok (.iconst 5, 1) := by decide +kernel
theorem dX11_wordSign_35 : decode cX11_wordSign 35 = .ok (.if_icmp .ge 8, 3) := by decide +kernel
theorem dX11_wordSign_38 : decode cX11_wordSign 38 = .ok (.bipush 115, 2) := by decide +kernel
theorem dX11_wordSign_40 : decode cX11_wordSign 40 = .ok (.goto 4, 3) := by decide +kernel
theorem dX11_wordSign_43 : decode cX11_wordSign 43 = .ok (.iconst 0, 1) := by decide +kernel
theorem dX11_wordSign_44 : decode cX11_wordSign 44 = .ok (.ireturn, 1) := by decide +kernel
theorem dX11_wordSign_45 : decode cX11_wordSign 45 = .ok (.iload_n 0, 1) := by decide +kernel
theorem dX11_wordSign_46 : decode cX11_wordSign 46 = .ok (.iconst 1, 1) := by decide +kernel
theorem dX11_wordSign_47 : decode cX11_wordSign 47 = .ok (.if_icmp .ne 24, 3) := by decide +kernel
theorem dX11_wordSign_50 : decode cX11_wordSign 50 = .ok (.iload_n 1, 1) := by decide +kernel
theorem dX11_wordSign_51 : decode cX11_wordSign 51 = .ok (.ifCond .ne 8, 3) := by decide +kernel
theorem dX11_wordSign_54 : decode cX11_wordSign 54 = .ok (.bipush 105, 2) := by decide +kernel
theorem dX11_wordSign_56 : decode cX11_wordSign 56 = .ok (.goto 14, 3) := by decide +kernel
theorem dX11_wordSign_59 : decode cX11_wordSign 59 = .ok (.iload_n 1, 1) := by decide +kernel
theorem dX11_wordSign_60 : decode cX11_wordSign 60 = .ok (.iconst 1, 1) := by decide +kernel
theorem dX11_wordSign_61 : decode cX11_wordSign 61 = .ok (.if_icmp .ne 8, 3) := by decide +kernel
theorem dX11_wordSign_64 : decode cX11_wordSign 64 = .ok (.bipush 100, 2) := by decide +kernel
theorem dX11_wordSign_66 : decode cX11_wordSign 66 = .ok (.goto 4, 3) := by decide +kernel
theorem dX11_wordSign_69 : decode cX11_wordSign 69 = .ok (.iconst 0, 1) := by decide +kernel
theorem dX11_wordSign_70 : decode cX11_wordSign 70 = .ok (.ireturn, 1) := by decide +kernel
theorem dX11_wordSign_71 : decode cX11_wordSign 71 = .ok (.iload_n 1, 1) := by decide +kernel
theorem dX11_wordSign_72 : decode cX11_wordSign 72 = .ok (.tableswitch 79 0 8 #[52, 55, 58, 61, 64, 67, 70, 73, 76], 52) := by decide +kernel
theorem dX11_wordSign_124 : decode cX11_wordSign 124 = .ok (.bipush 114, 2) := by decide +kernel
theorem dX11_wordSign_126 : decode cX11_wordSign 126 = .ok (.ireturn, 1) := by decide +kernel
theorem dX11_wordSign_127 : decode cX11_wordSign 127 = .ok (.bipush 101, 2) := by decide +kernel
theorem dX11_wordSign_129 : decode cX11_wordSign 129 = .ok (.ireturn, 1) := by decide +kernel
theorem dX11_wordSign_130 : decode cX11_wordSign 130 = .ok (.bipush 102, 2) := by decide +kernel
theorem dX11_wordSign_132 : decode cX11_wordSign 132 = .ok (.ireturn, 1) := by decide +kernel
theorem dX11_wordSign_133 : decode cX11_wordSign 133 = .ok (.bipush 101, 2) := by decide +kernel
theorem dX11_wordSign_135 : decode cX11_wordSign 135 = .ok (.ireturn, 1) := by decide +kernel
theorem dX11_wordSign_136 : decode cX11_wordSign 136 = .ok (.bipush 114, 2) := by decide +kernel
theorem dX11_wordSign_138 : decode cX11_wordSign 138 = .ok (.ireturn, 1) := by decide +kernel
theorem dX11_wordSign_139 : decode cX11_wordSign 139 = .ok (.bipush 101, 2) := by decide +kernel
theorem dX11_wordSign_141 : decode cX11_wordSign 141 = .ok (.ireturn, 1) := by decide +kernel
theorem dX11_wordSign_142 : decode cX11_wordSign 142 = .ok (.bipush 110, 2) := by decide +kernel
theorem dX11_wordSign_144 : decode cX11_wordSign 144 = .ok (.ireturn, 1) := by decide +kernel
theorem dX11_wordSign_145 : decode cX11_wordSign 145 = .ok (.bipush 99, 2) := by decide +kernel
theorem dX11_wordSign_147 : decode cX11_wordSign 147 = .ok (.ireturn, 1) := by decide +kernel
theorem dX11_wordSign_148 : decode cX11_wordSign 148 = .ok (.bipush 101, 2) := by decide +kernel
theorem dX11_wordSign_150 : decode cX11_wordSign 150 = .ok (.ireturn, 1) := by decide +kernel
theorem dX11_wordSign_151 : decode cX11_wordSign 151 = .ok (.iconst 0, 1) := by decide +kernel
theorem dX11_wordSign_152 : decode cX11_wordSign 152 = .ok (.ireturn, 1) := by decide +kernel
theorem dX11_isKey_0 : decode cX11_isKey 0 = .ok (.iload_n 2, 1) := by decide +kernel
theorem dX11_isKey_1 : decode cX11_isKey 1 = .ok (.aload_n 0, 1) := by decide +kernel
theorem dX11_isKey_2 : decode cX11_isKey 2 = .ok (.getfield 129, 3) := by decide +kernel
theorem dX11_isKey_5 : decode cX11_isKey 5 = .ok (.iload_n 1, 1) := by decide +kernel
theorem dX11_isKey_6 : decode cX11_isKey 6 = .ok (.iaload, 1) := by decide +kernel
theorem dX11_isKey_7 : decode cX11_isKey 7 = .ok (.invokestatic 417, 3) := by decide +kernel
theorem dX11_isKey_10 : decode cX11_isKey 10 = .ok (.ifCond .ne 7, 3) := by decide +kernel
theorem dX11_isKey_13 : decode cX11_isKey 13 = .ok (.iconst 1, 1) := by decide +kernel
theorem dX11_isKey_14 : decode cX11_isKey 14 = .ok (.goto 4, 3) := by decide +kernel
theorem dX11_isKey_17 : decode cX11_isKey 17 = .ok (.iconst 0, 1) := by decide +kernel
theorem dX11_isKey_18 : decode cX11_isKey 18 = .ok (.istore_n 3, 1) := by decide +kernel
theorem dX11_isKey_19 : decode cX11_isKey 19 = .ok (.iconst 0, 1) := by decide +kernel
theorem dX11_isKey_20 : decode cX11_isKey 20 = .ok (.istore 4, 2) := by decide +kernel
theorem dX11_isKey_22 : decode cX11_isKey 22 = .ok (.iload 4, 2) := by decide +kernel
theorem dX11_isKey_24 : decode cX11_isKey 24 = .ok (.aload_n 0, 1) := by decide +kernel
theorem dX11_isKey_25 : decode cX11_isKey 25 = .ok (.getfield 129, 3) := by decide +kernel
theorem dX11_isKey_28 : decode cX11_isKey 28 = .ok (.iload_n 1, 1) := by decide +kernel
theorem dX11_isKey_29 : decode cX11_isKey 29 = .ok (.iaload, 1) := by decide +kernel
theorem dX11_isKey_30 : decode cX11_isKey 30 = .ok (.if_icmp .ge 42, 3) := by decide +kernel
theorem dX11_isKey_33 : decode cX11_isKey 33 = .ok (.iload_n 3, 1) := by decide +kernel
theorem dX11_isKey_34 : decode cX11_isKey 34 = .ok (.ifCond .eq 38, 3) := by decide +kernel
theorem dX11_isKey_37 : decode cX11_isKey 37 = .ok (.aload_n 0, 1) := by decide +kernel
theorem dX11_isKey_38 : decode cX11_isKey 38 = .ok (.getfield 102, 3) := by decide +kernel
theorem dX11_isKey_41 : decode cX11_isKey 41 = .ok (.aload_n 0, 1) := by decide +kernel
theorem dX11_isKey_42 : decode cX11_isKey 42 = .ok (.getfield 126, 3) := by decide +kernel
theorem dX11_isKey_45 : decode cX11_isKey 45 = .ok (.iload_n 1, 1) := by decide +kernel
theorem dX11_isKey_46 : decode cX11_isKey 46 = .ok (.iaload, 1) := by decide +kernel
theorem dX11_isKey_47 : decode cX11_isKey 47 = .ok (.iload 4, 2) := by decide +kernel
theorem dX11_isKey_49 : decode cX11_isKey 49 = .ok (.iadd, 1) := by decide +kernel
theorem dX11_isKey_50 : decode cX11_isKey 50 = .ok (.iaload, 1) := by decide +kernel
theorem dX11_isKey_51 : decode cX11_isKey 51 = .ok (.iload_n 2, 1) := by decide +kernel
theorem dX11_isKey_52 : decode cX11_isKey 52 = .ok (.iload 4, 2) := by decide +kernel
theorem dX11_isKey_54 : decode cX11_isKey 54 = .ok (.invokestatic 417, 3) := by decide +kernel
theorem dX11_isKey_57 : decode cX11_isKey 57 = .ok (.if_icmp .ne 7, 3) := by decide +kernel
theorem dX11_isKey_60 : decode cX11_isKey 60 = .ok (.iconst 1, 1) := by decide +kernel
theorem dX11_isKey_61 : decode cX11_isKey 61 = .ok (.goto 4, 3) := by decide +kernel
theorem dX11_isKey_64 : decode cX11_isKey 64 = .ok (.iconst 0, 1) := by decide +kernel
theorem dX11_isKey_65 : decode cX11_isKey 65 = .ok (.istore_n 3, 1) := by decide +kernel
theorem dX11_isKey_66 : decode cX11_isKey 66 = .ok (.iinc 4 1, 3) := by decide +kernel
theorem dX11_isKey_69 : decode cX11_isKey 69 = .ok (.goto (-47), 3) := by decide +kernel
theorem dX11_isKey_72 : decode cX11_isKey 72 = .ok (.iload_n 3, 1) := by decide +kernel
theorem dX11_isKey_73 : decode cX11_isKey 73 = .ok (.ireturn, 1) := by decide +kernel
theorem dX11_pieceOfText_0 : decode cX11_pieceOfText 0 = .ok (.aload_n 0, 1) := by decide +kernel
theorem dX11_pieceOfText_1 : decode cX11_pieceOfText 1 = .ok (.iconst 0, 1) := by decide +kernel
theorem dX11_pieceOfText_2 : decode cX11_pieceOfText 2 = .ok (.putfield 420, 3) := by decide +kernel
theorem dX11_pieceOfText_5 : decode cX11_pieceOfText 5 = .ok (.iconst 0, 1) := by decide +kernel
theorem dX11_pieceOfText_6 : decode cX11_pieceOfText 6 = .ok (.istore_n 2, 1) := by decide +kernel
theorem dX11_pieceOfText_7 : decode cX11_pieceOfText 7 = .ok (.iload_n 2, 1) := by decide +kernel
theorem dX11_pieceOfText_8 : decode cX11_pieceOfText 8 = .ok (.aload_n 0, 1) := by decide +kernel
theorem dX11_pieceOfText_9 : decode cX11_pieceOfText 9 = .ok (.getfield 355, 3) := by decide +kernel
theorem dX11_pieceOfText_12 : decode cX11_pieceOfText 12 = .ok (.if_icmp .ge 44, 3) := by decide +kernel
theorem dX11_pieceOfText_15 : decode cX11_pieceOfText 15 = .ok (.aload_n 0, 1) := by decide +kernel
theorem dX11_pieceOfText_16 : decode cX11_pieceOfText 16 = .ok (.getfield 141, 3) := by decide +kernel
theorem dX11_pieceOfText_19 : decode cX11_pieceOfText 19 = .ok (.iload_n 2, 1) := by decide +kernel
theorem dX11_pieceOfText_20 : decode cX11_pieceOfText 20 = .ok (.iaload, 1) := by decide +kernel
theorem dX11_pieceOfText_21 : decode cX11_pieceOfText 21 = .ok (.iload_n 1, 1) := by decide +kernel
theorem dX11_pieceOfText_22 : decode cX11_pieceOfText 22 = .ok (.if_icmp .ne 28, 3) := by decide +kernel
theorem dX11_pieceOfText_25 : decode cX11_pieceOfText 25 = .ok (.aload_n 0, 1) := by decide +kernel
theorem dX11_pieceOfText_26 : decode cX11_pieceOfText 26 = .ok (.getfield 162, 3) := by decide +kernel
theorem dX11_pieceOfText_29 : decode cX11_pieceOfText 29 = .ok (.aload_n 0, 1) := by decide +kernel
theorem dX11_pieceOfText_30 : decode cX11_pieceOfText 30 = .ok (.getfield 420, 3) := by decide +kernel
theorem dX11_pieceOfText_33 : decode cX11_pieceOfText 33 = .ok (.aload_n 0, 1) := by decide +kernel
theorem dX11_pieceOfText_34 : decode cX11_pieceOfText 34 = .ok (.getfield 138, 3) := by decide +kernel
theorem dX11_pieceOfText_37 : decode cX11_pieceOfText 37 = .ok (.iload_n 2, 1) := by decide +kernel
theorem dX11_pieceOfText_38 : decode cX11_pieceOfText 38 = .ok (.iaload, 1) := by decide +kernel
theorem dX11_pieceOfText_39 : decode cX11_pieceOfText 39 = .ok (.iastore, 1) := by decide +kernel
theorem dX11_pieceOfText_40 : decode cX11_pieceOfText 40 = .ok (.aload_n 0, 1) := by decide +kernel
theorem dX11_pieceOfText_41 : decode cX11_pieceOfText 41 = .ok (.dup, 1) := by decide +kernel
theorem dX11_pieceOfText_42 : decode cX11_pieceOfText 42 = .ok (.getfield 420, 3) := by decide +kernel
theorem dX11_pieceOfText_45 : decode cX11_pieceOfText 45 = .ok (.iconst 1, 1) := by decide +kernel
theorem dX11_pieceOfText_46 : decode cX11_pieceOfText 46 = .ok (.iadd, 1) := by decide +kernel
theorem dX11_pieceOfText_47 : decode cX11_pieceOfText 47 = .ok (.putfield 420, 3) := by decide +kernel
theorem dX11_pieceOfText_50 : decode cX11_pieceOfText 50 = .ok (.iinc 2 1, 3) := by decide +kernel
theorem dX11_pieceOfText_53 : decode cX11_pieceOfText 53 = .ok (.goto (-46), 3) := by decide +kernel
theorem dX11_pieceOfText_56 : decode cX11_pieceOfText 56 = .ok (.return_, 1) := by decide +kernel
theorem dX11_pieceOfValue_0 : decode cX11_pieceOfValue 0 = .ok (.aload_n 0, 1) := by decide +kernel
theorem dX11_pieceOfValue_1 : decode cX11_pieceOfValue 1 = .ok (.aload_n 0, 1) := by decide +kernel
theorem dX11_pieceOfValue_2 : decode cX11_pieceOfValue 2 = .ok (.getfield 135, 3) := by decide +kernel
theorem dX11_pieceOfValue_5 : decode cX11_pieceOfValue 5 = .ok (.iload_n 1, 1) := by decide +kernel
theorem dX11_pieceOfValue_6 : decode cX11_pieceOfValue 6 = .ok (.iaload, 1) := by decide +kernel
theorem dX11_pieceOfValue_7 : decode cX11_pieceOfValue 7 = .ok (.putfield 420, 3) := by decide +kernel
theorem dX11_pieceOfValue_10 : decode cX11_pieceOfValue 10 = .ok (.iconst 0, 1) := by decide +kernel
theorem dX11_pieceOfValue_11 : decode cX11_pieceOfValue 11 = .ok (.istore_n 2, 1) := by decide +kernel
theorem dX11_pieceOfValue_12 : decode cX11_pieceOfValue 12 = .ok (.iload_n 2, 1) := by decide +kernel
theorem dX11_pieceOfValue_13 : decode cX11_pieceOfValue 13 = .ok (.aload_n 0, 1) := by decide +kernel
theorem dX11_pieceOfValue_14 : decode cX11_pieceOfValue 14 = .ok (.getfield 420, 3) := by decide +kernel
theorem dX11_pieceOfValue_17 : decode cX11_pieceOfValue 17 = .ok (.if_icmp .ge 28, 3) := by decide +kernel
theorem dX11_pieceOfValue_20 : decode cX11_pieceOfValue 20 = .ok (.aload_n 0, 1) := by decide +kernel
theorem dX11_pieceOfValue_21 : decode cX11_pieceOfValue 21 = .ok (.getfield 162, 3) := by decide +kernel
theorem dX11_pieceOfValue_24 : decode cX11_pieceOfValue 24 = .ok (.iload_n 2, 1) := by decide +kernel
theorem dX11_pieceOfValue_25 : decode cX11_pieceOfValue 25 = .ok (.aload_n 0, 1) := by decide +kernel
theorem dX11_pieceOfValue_26 : decode cX11_pieceOfValue 26 = .ok (.getfield 138, 3) := by decide +kernel
theorem dX11_pieceOfValue_29 : decode cX11_pieceOfValue 29 = .ok (.aload_n 0, 1) := by decide +kernel
theorem dX11_pieceOfValue_30 : decode cX11_pieceOfValue 30 = .ok (.getfield 132, 3) := by decide +kernel
theorem dX11_pieceOfValue_33 : decode cX11_pieceOfValue 33 = .ok (.iload_n 1, 1) := by decide +kernel
theorem dX11_pieceOfValue_34 : decode cX11_pieceOfValue 34 = .ok (.iaload, 1) := by decide +kernel
theorem dX11_pieceOfValue_35 : decode cX11_pieceOfValue 35 = .ok (.iload_n 2, 1) := by decide +kernel
theorem dX11_pieceOfValue_36 : decode cX11_pieceOfValue 36 = .ok (.iadd, 1) := by decide +kernel
theorem dX11_pieceOfValue_37 : decode cX11_pieceOfValue 37 = .ok (.iaload, 1) := by decide +kernel
theorem dX11_pieceOfValue_38 : decode cX11_pieceOfValue 38 = .ok (.iastore, 1) := by decide +kernel
theorem dX11_pieceOfValue_39 : decode cX11_pieceOfValue 39 = .ok (.iinc 2 1, 3) := by decide +kernel
theorem dX11_pieceOfValue_42 : decode cX11_pieceOfValue 42 = .ok (.goto (-30), 3) := by decide +kernel
theorem dX11_pieceOfValue_45 : decode cX11_pieceOfValue 45 = .ok (.return_, 1) := by decide +kernel
theorem dX11_becomes_0 : decode cX11_becomes 0 = .ok (.bipush 60, 2) := by decide +kernel
theorem dX11_becomes_2 : decode cX11_becomes 2 = .ok (.iload_n 1, 1) := by decide +kernel
theorem dX11_becomes_3 : decode cX11_becomes 3 = .ok (.iadd, 1) := by decide +kernel
theorem dX11_becomes_4 : decode cX11_becomes 4 = .ok (.istore_n 3, 1) := by decide +kernel
theorem dX11_becomes_5 : decode cX11_becomes 5 = .ok (.aload_n 0, 1) := by decide +kernel
theorem dX11_becomes_6 : decode cX11_becomes 6 = .ok (.getfield 22, 3) := by decide +kernel
theorem dX11_becomes_9 : decode cX11_becomes 9 = .ok (.iconst 4, 1) := by decide +kernel
theorem dX11_becomes_10 : decode cX11_becomes 10 = .ok (.aload_n 0, 1) := by decide +kernel
theorem dX11_becomes_11 : decode cX11_becomes 11 = .ok (.getfield 50, 3) := by decide +kernel
theorem dX11_becomes_14 : decode cX11_becomes 14 = .ok (.iload_n 3, 1) := by decide +kernel
theorem dX11_becomes_15 : decode cX11_becomes 15 = .ok (.iaload, 1) := by decide +kernel
theorem dX11_becomes_16 : decode cX11_becomes 16 = .ok (.imul, 1) := by decide +kernel
theorem dX11_becomes_17 : decode cX11_becomes 17 = .ok (.iload_n 2, 1) := by decide +kernel
theorem dX11_becomes_18 : decode cX11_becomes 18 = .ok (.iadd, 1) := by decide +kernel
theorem dX11_becomes_19 : decode cX11_becomes 19 = .ok (.iaload, 1) := by decide +kernel
theorem dX11_becomes_20 : decode cX11_becomes 20 = .ok (.istore 4, 2) := by decide +kernel
theorem dX11_becomes_22 : decode cX11_becomes 22 = .ok (.iconst 4, 1) := by decide +kernel
theorem dX11_becomes_23 : decode cX11_becomes 23 = .ok (.iload_n 3, 1) := by decide +kernel
theorem dX11_becomes_24 : decode cX11_becomes 24 = .ok (.imul, 1) := by decide +kernel
theorem dX11_becomes_25 : decode cX11_becomes 25 = .ok (.iload_n 2, 1) := by decide +kernel
theorem dX11_becomes_26 : decode cX11_becomes 26 = .ok (.iadd, 1) := by decide +kernel
theorem dX11_becomes_27 : decode cX11_becomes 27 = .ok (.istore 5, 2) := by decide +kernel
theorem dX11_becomes_29 : decode cX11_becomes 29 = .ok (.iload 4, 2) := by decide +kernel
theorem dX11_becomes_31 : decode cX11_becomes 31 = .ok (.iconst 1, 1) := by decide +kernel
theorem dX11_becomes_32 : decode cX11_becomes 32 = .ok (.if_icmp .ne 84, 3) := by decide +kernel
theorem dX11_becomes_35 : decode cX11_becomes 35 = .ok (.aload_n 0, 1) := by decide +kernel
theorem dX11_becomes_36 : decode cX11_becomes 36 = .ok (.getfield 420, 3) := by decide +kernel
theorem dX11_becomes_39 : decode cX11_becomes 39 = .ok (.bipush 20, 2) := by decide +kernel
theorem dX11_becomes_41 : decode cX11_becomes 41 = .ok (.if_icmp .le 5, 3) := by decide +kernel
theorem dX11_becomes_44 : decode cX11_becomes 44 = .ok (.iconst 0, 1) := by decide +kernel
theorem dX11_becomes_45 : decode cX11_becomes 45 = .ok (.ireturn, 1) := by decide +kernel
theorem dX11_becomes_46 : decode cX11_becomes 46 = .ok (.iconst 0, 1) := by decide +kernel
theorem dX11_becomes_47 : decode cX11_becomes 47 = .ok (.istore 6, 2) := by decide +kernel
theorem dX11_becomes_49 : decode cX11_becomes 49 = .ok (.iload 6, 2) := by decide +kernel
theorem dX11_becomes_51 : decode cX11_becomes 51 = .ok (.aload_n 0, 1) := by decide +kernel
theorem dX11_becomes_52 : decode cX11_becomes 52 = .ok (.getfield 420, 3) := by decide +kernel
theorem dX11_becomes_55 : decode cX11_becomes 55 = .ok (.if_icmp .ge 48, 3) := by decide +kernel
theorem dX11_becomes_58 : decode cX11_becomes 58 = .ok (.aload_n 0, 1) := by decide +kernel
theorem dX11_becomes_59 : decode cX11_becomes 59 = .ok (.getfield 162, 3) := by decide +kernel
theorem dX11_becomes_62 : decode cX11_becomes 62 = .ok (.iload 6, 2) := by decide +kernel
theorem dX11_becomes_64 : decode cX11_becomes 64 = .ok (.iaload, 1) := by decide +kernel
theorem dX11_becomes_65 : decode cX11_becomes 65 = .ok (.bipush 32, 2) := by decide +kernel
theorem dX11_becomes_67 : decode cX11_becomes 67 = .ok (.bipush 126, 2) := by decide +kernel
theorem dX11_becomes_69 : decode cX11_becomes 69 = .ok (.invokestatic 174, 3) := by decide +kernel
theorem dX11_becomes_72 : decode cX11_becomes 72 = .ok (.ifCond .ne 5, 3) := by decide +kernel
theorem dX11_becomes_75 : decode cX11_becomes 75 = .ok (.iconst 0, 1) := by decide +kernel
theorem dX11_becomes_76 : decode cX11_becomes 76 = .ok (.ireturn, 1) := by decide +kernel
theorem dX11_becomes_77 : decode cX11_becomes 77 = .ok (.aload_n 0, 1) := by decide +kernel
theorem dX11_becomes_78 : decode cX11_becomes 78 = .ok (.getfield 56, 3) := by decide +kernel
theorem dX11_becomes_81 : decode cX11_becomes 81 = .ok (.bipush 20, 2) := by decide +kernel
theorem dX11_becomes_83 : decode cX11_becomes 83 = .ok (.iload 5, 2) := by decide +kernel
theorem dX11_becomes_85 : decode cX11_becomes 85 = .ok (.imul, 1) := by decide +kernel
theorem dX11_becomes_86 : decode cX11_becomes 86 = .ok (.iload 6, 2) := by decide +kernel
theorem dX11_becomes_88 : decode cX11_becomes 88 = .ok (.iadd, 1) := by decide +kernel
theorem dX11_becomes_89 : decode cX11_becomes 89 = .ok (.aload_n 0, 1) := by decide +kernel
theorem dX11_becomes_90 : decode cX11_becomes 90 = .ok (.getfield 162, 3) := by decide +kernel
theorem dX11_becomes_93 : decode cX11_becomes 93 = .ok (.iload 6, 2) := by decide +kernel
theorem dX11_becomes_95 : decode cX11_becomes 95 = .ok (.iaload, 1) := by decide +kernel
theorem dX11_becomes_96 : decode cX11_becomes 96 = .ok (.iastore, 1) := by decide +kernel
theorem dX11_becomes_97 : decode cX11_becomes 97 = .ok (.iinc 6 1, 3) := by decide +kernel
theorem dX11_becomes_100 : decode cX11_becomes 100 = .ok (.goto (-51), 3) := by decide +kernel
theorem dX11_becomes_103 : decode cX11_becomes 103 = .ok (.aload_n 0, 1) := by decide +kernel
theorem dX11_becomes_104 : decode cX11_becomes 104 = .ok (.getfield 53, 3) := by decide +kernel
theorem dX11_becomes_107 : decode cX11_becomes 107 = .ok (.iload 5, 2) := by decide +kernel
theorem dX11_becomes_109 : decode cX11_becomes 109 = .ok (.aload_n 0, 1) := by decide +kernel
theorem dX11_becomes_110 : decode cX11_becomes 110 = .ok (.getfield 420, 3) := by decide +kernel
theorem dX11_becomes_113 : decode cX11_becomes 113 = .ok (.iastore, 1) := by decide +kernel
theorem dX11_becomes_114 : decode cX11_becomes 114 = .ok (.iconst 1, 1) := by decide +kernel
theorem dX11_becomes_115 : decode cX11_becomes 115 = .ok (.ireturn, 1) := by decide +kernel
theorem dX11_becomes_116 : decode cX11_becomes 116 = .ok (.aload_n 0, 1) := by decide +kernel
theorem dX11_becomes_117 : decode cX11_becomes 117 = .ok (.getfield 420, 3) := by decide +kernel
theorem dX11_becomes_120 : decode cX11_becomes 120 = .ok (.ifCond .le 18, 3) := by decide +kernel
theorem dX11_becomes_123 : decode cX11_becomes 123 = .ok (.aload_n 0, 1) := by decide +kernel
theorem dX11_becomes_124 : decode cX11_becomes 124 = .ok (.getfield 162, 3) := by decide +kernel
theorem dX11_becomes_127 : decode cX11_becomes 127 = .ok (.iconst 0, 1) := by decide +kernel
theorem dX11_becomes_128 : decode cX11_becomes 128 = .ok (.iaload, 1) := by decide +kernel
theorem dX11_becomes_129 : decode cX11_becomes 129 = .ok (.bipush 45, 2) := by decide +kernel
theorem dX11_becomes_131 : decode cX11_becomes 131 = .ok (.if_icmp .ne 7, 3) := by decide +kernel
theorem dX11_becomes_134 : decode cX11_becomes 134 = .ok (.iconst 1, 1) := by decide +kernel
theorem dX11_becomes_135 : decode cX11_becomes 135 = .ok (.goto 4, 3) := by decide +kernel
theorem dX11_becomes_138 : decode cX11_becomes 138 = .ok (.iconst 0, 1) := by decide +kernel
theorem dX11_becomes_139 : decode cX11_becomes 139 = .ok (.istore 6, 2) := by decide +kernel
theorem dX11_becomes_141 : decode cX11_becomes 141 = .ok (.aload_n 0, 1) := by decide +kernel
theorem dX11_becomes_142 : decode cX11_becomes 142 = .ok (.getfield 420, 3) := by decide +kernel
theorem dX11_becomes_145 : decode cX11_becomes 145 = .ok (.iload 6, 2) := by decide +kernel
theorem dX11_becomes_147 : decode cX11_becomes 147 = .ok (.if_icmp .eq 15, 3) := by decide +kernel
theorem dX11_becomes_150 : decode cX11_becomes 150 = .ok (.aload_n 0, 1) := by decide +kernel
theorem dX11_becomes_151 : decode cX11_becomes 151 = .ok (.getfield 420, 3) := by decide +kernel
theorem dX11_becomes_154 : decode cX11_becomes 154 = .ok (.iload 6, 2) := by decide +kernel
theorem dX11_becomes_156 : decode cX11_becomes 156 = .ok (.isub, 1) := by decide +kernel
theorem dX11_becomes_157 : decode cX11_becomes 157 = .ok (.bipush 10, 2) := by decide +kernel
theorem dX11_becomes_159 : decode cX11_becomes 159 = .ok (.if_icmp .le 5, 3) := by decide +kernel
theorem dX11_becomes_162 : decode cX11_becomes 162 = .ok (.iconst 0, 1) := by decide +kernel
theorem dX11_becomes_163 : decode cX11_becomes 163 = .ok (.ireturn, 1) := by decide +kernel
theorem dX11_becomes_164 : decode cX11_becomes 164 = .ok (.lconst 0, 1) := by decide +kernel
theorem dX11_becomes_165 : decode cX11_becomes 165 = .ok (.lstore 7, 2) := by decide +kernel
theorem dX11_becomes_167 : decode cX11_becomes 167 = .ok (.iload 6, 2) := by decide +kernel
theorem dX11_becomes_169 : decode cX11_becomes 169 = .ok (.istore 9, 2) := by decide +kernel
theorem dX11_becomes_171 : decode cX11_becomes 171 = .ok (.iload 9, 2) := by decide +kernel
theorem dX11_becomes_173 : decode cX11_becomes 173 = .ok (.aload_n 0, 1) := by decide +kernel
theorem dX11_becomes_174 : decode cX11_becomes 174 = .ok (.getfield 420, 3) := by decide +kernel
theorem dX11_becomes_177 : decode cX11_becomes 177 = .ok (.if_icmp .ge 45, 3) := by decide +kernel
theorem dX11_becomes_180 : decode cX11_becomes 180 = .ok (.aload_n 0, 1) := by decide +kernel
theorem dX11_becomes_181 : decode cX11_becomes 181 = .ok (.getfield 162, 3) := by decide +kernel
theorem dX11_becomes_184 : decode cX11_becomes 184 = .ok (.iload 9, 2) := by decide +kernel
theorem dX11_becomes_186 : decode cX11_becomes 186 = .ok (.iaload, 1) := by decide +kernel
theorem dX11_becomes_187 : decode cX11_becomes 187 = .ok (.invokestatic 189, 3) := by decide +kernel
theorem dX11_becomes_190 : decode cX11_becomes 190 = .ok (.ifCond .ne 5, 3) := by decide +kernel
theorem dX11_becomes_193 : decode cX11_becomes 193 = .ok (.iconst 0, 1) := by decide +kernel
theorem dX11_becomes_194 : decode cX11_becomes 194 = .ok (.ireturn, 1) := by decide +kernel
theorem dX11_becomes_195 : decode cX11_becomes 195 = .ok (.lload 7, 2) := by decide +kernel
theorem dX11_becomes_197 : decode cX11_becomes 197 = .ok (.ldc2_w 265, 3) := by decide +kernel
theorem dX11_becomes_200 : decode cX11_becomes 200 = .ok (.lmul, 1) := by decide +kernel
theorem dX11_becomes_201 : decode cX11_becomes 201 = .ok (.aload_n 0, 1) := by decide +kernel
theorem dX11_becomes_202 : decode cX11_becomes 202 = .ok (.getfield 162, 3) := by decide +kernel
theorem dX11_becomes_205 : decode cX11_becomes 205 = .ok (.iload 9, 2) := by decide +kernel
theorem dX11_becomes_207 : decode cX11_becomes 207 = .ok (.iaload, 1) := by decide +kernel
theorem dX11_becomes_208 : decode cX11_becomes 208 = .ok (.i2l, 1) := by decide +kernel
theorem dX11_becomes_209 : decode cX11_becomes 209 = .ok (.ladd, 1) := by decide +kernel
theorem dX11_becomes_210 : decode cX11_becomes 210 = .ok (.ldc2_w 423, 3) := by decide +kernel
theorem dX11_becomes_213 : decode cX11_becomes 213 = .ok (.lsub, 1) := by decide +kernel
theorem dX11_becomes_214 : decode cX11_becomes 214 = .ok (.lstore 7, 2) := by decide +kernel
theorem dX11_becomes_216 : decode cX11_becomes 216 = .ok (.iinc 9 1, 3) := by decide +kernel
theorem dX11_becomes_219 : decode cX11_becomes 219 = .ok (.goto (-48), 3) := by decide +kernel
theorem dX11_becomes_222 : decode cX11_becomes 222 = .ok (.iload 6, 2) := by decide +kernel
theorem dX11_becomes_224 : decode cX11_becomes 224 = .ok (.iconst 1, 1) := by decide +kernel
theorem dX11_becomes_225 : decode cX11_becomes 225 = .ok (.if_icmp .ne 9, 3) := by decide +kernel
theorem dX11_becomes_228 : decode cX11_becomes 228 = .ok (.lload 7, 2) := by decide +kernel
theorem dX11_becomes_230 : decode cX11_becomes 230 = .ok (.lneg, 1) := by decide +kernel
theorem dX11_becomes_231 : decode cX11_becomes 231 = .ok (.goto 5, 3) := by decide +kernel
theorem dX11_becomes_234 : decode cX11_becomes 234 = .ok (.lload 7, 2) := by decide +kernel
theorem dX11_becomes_236 : decode cX11_becomes 236 = .ok (.lstore 7, 2) := by decide +kernel
theorem dX11_becomes_238 : decode cX11_becomes 238 = .ok (.lload 7, 2) := by decide +kernel
theorem dX11_becomes_240 : decode cX11_becomes 240 = .ok (.ldc2_w 425, 3) := by decide +kernel
theorem dX11_becomes_243 : decode cX11_becomes 243 = .ok (.lcmp, 1) := by decide +kernel
theorem dX11_becomes_244 : decode cX11_becomes 244 = .ok (.ifCond .lt 12, 3) := by decide +kernel
theorem dX11_becomes_247 : decode cX11_becomes 247 = .ok (.lload 7, 2) := by decide +kernel
theorem dX11_becomes_249 : decode cX11_becomes 249 = .ok (.ldc2_w 427, 3) := by decide +kernel
theorem dX11_becomes_252 : decode cX11_becomes 252 = .ok (.lcmp, 1) := by decide +kernel
theorem dX11_becomes_253 : decode cX11_becomes 253 = .ok (.ifCond .le 5, 3) := by decide +kernel
theorem dX11_becomes_256 : decode cX11_becomes 256 = .ok (.iconst 0, 1) := by decide +kernel
theorem dX11_becomes_257 : decode cX11_becomes 257 = .ok (.ireturn, 1) := by decide +kernel
theorem dX11_becomes_258 : decode cX11_becomes 258 = .ok (.aload_n 0, 1) := by decide +kernel
theorem dX11_becomes_259 : decode cX11_becomes 259 = .ok (.getfield 53, 3) := by decide +kernel
theorem dX11_becomes_262 : decode cX11_becomes 262 = .ok (.iload 5, 2) := by decide +kernel
theorem dX11_becomes_264 : decode cX11_becomes 264 = .ok (.lload 7, 2) := by decide +kernel
theorem dX11_becomes_266 : decode cX11_becomes 266 = .ok (.l2i, 1) := by decide +kernel
theorem dX11_becomes_267 : decode cX11_becomes 267 = .ok (.iastore, 1) := by decide +kernel
theorem dX11_becomes_268 : decode cX11_becomes 268 = .ok (.iconst 1, 1) := by decide +kernel
theorem dX11_becomes_269 : decode cX11_becomes 269 = .ok (.ireturn, 1) := by decide +kernel
theorem dX11_isId_0 : decode cX11_isId 0 = .ok (.aload_n 0, 1) := by decide +kernel
theorem dX11_isId_1 : decode cX11_isId 1 = .ok (.getfield 135, 3) := by decide +kernel
theorem dX11_isId_4 : decode cX11_isId 4 = .ok (.iload_n 2, 1) := by decide +kernel
theorem dX11_isId_5 : decode cX11_isId 5 = .ok (.iaload, 1) := by decide +kernel
theorem dX11_isId_6 : decode cX11_isId 6 = .ok (.istore_n 3, 1) := by decide +kernel
theorem dX11_isId_7 : decode cX11_isId 7 = .ok (.iconst 0, 1) := by decide +kernel
theorem dX11_isId_8 : decode cX11_isId 8 = .ok (.istore 4, 2) := by decide +kernel
theorem dX11_isId_10 : decode cX11_isId 10 = .ok (.iconst 0, 1) := by decide +kernel
theorem dX11_isId_11 : decode cX11_isId 11 = .ok (.istore 5, 2) := by decide +kernel
theorem dX11_isId_13 : decode cX11_isId 13 = .ok (.iload 5, 2) := by decide +kernel
theorem dX11_isId_15 : decode cX11_isId 15 = .ok (.iload_n 3, 1) := by decide +kernel
theorem dX11_isId_16 : decode cX11_isId 16 = .ok (.if_icmp .ge 66, 3) := by decide +kernel
theorem dX11_isId_19 : decode cX11_isId 19 = .ok (.iload 5, 2) := by decide +kernel
theorem dX11_isId_21 : decode cX11_isId 21 = .ok (.iconst 5, 1) := by decide +kernel
theorem dX11_isId_22 : decode cX11_isId 22 = .ok (.if_icmp .ge 60, 3) := by decide +kernel
theorem dX11_isId_25 : decode cX11_isId 25 = .ok (.aload_n 0, 1) := by decide +kernel
theorem dX11_isId_26 : decode cX11_isId 26 = .ok (.getfield 138, 3) := by decide +kernel
theorem dX11_isId_29 : decode cX11_isId 29 = .ok (.aload_n 0, 1) := by decide +kernel
theorem dX11_isId_30 : decode cX11_isId 30 = .ok (.getfield 132, 3) := by decide +kernel
theorem dX11_isId_33 : decode cX11_isId 33 = .ok (.iload_n 2, 1) := by decide +kernel
theorem dX11_isId_34 : decode cX11_isId 34 = .ok (.iaload, 1) := by decide +kernel
theorem dX11_isId_35 : decode cX11_isId 35 = .ok (.iload 5, 2) := by decide +kernel
theorem dX11_isId_37 : decode cX11_isId 37 = .ok (.iadd, 1) := by decide +kernel
theorem dX11_isId_38 : decode cX11_isId 38 = .ok (.iaload, 1) := by decide +kernel
theorem dX11_isId_39 : decode cX11_isId 39 = .ok (.istore 6, 2) := by decide +kernel
theorem dX11_isId_41 : decode cX11_isId 41 = .ok (.iload 6, 2) := by decide +kernel
theorem dX11_isId_43 : decode cX11_isId 43 = .ok (.invokestatic 189, 3) := by decide +kernel
theorem dX11_isId_46 : decode cX11_isId 46 = .ok (.ifCond .eq 15, 3) := by decide +kernel
theorem dX11_isId_49 : decode cX11_isId 49 = .ok (.iload 5, 2) := by decide +kernel
theorem dX11_isId_51 : decode cX11_isId 51 = .ok (.ifCond .ne 12, 3) := by decide +kernel
theorem dX11_isId_54 : decode cX11_isId 54 = .ok (.iload 6, 2) := by decide +kernel
theorem dX11_isId_56 : decode cX11_isId 56 = .ok (.bipush 48, 2) := by decide +kernel
theorem dX11_isId_58 : decode cX11_isId 58 = .ok (.if_icmp .ne 5, 3) := by decide +kernel
theorem dX11_isId_61 : decode cX11_isId 61 = .ok (.iconst 0, 1) := by decide +kernel
theorem dX11_isId_62 : decode cX11_isId 62 = .ok (.ireturn, 1) := by decide +kernel
theorem dX11_isId_63 : decode cX11_isId 63 = .ok (.iload 4, 2) := by decide +kernel
theorem dX11_isId_65 : decode cX11_isId 65 = .ok (.bipush 10, 2) := by decide +kernel
theorem dX11_isId_67 : decode cX11_isId 67 = .ok (.imul, 1) := by decide +kernel
theorem dX11_isId_68 : decode cX11_isId 68 = .ok (.iload 6, 2) := by decide +kernel
theorem dX11_isId_70 : decode cX11_isId 70 = .ok (.iadd, 1) := by decide +kernel
theorem dX11_isId_71 : decode cX11_isId 71 = .ok (.bipush 48, 2) := by decide +kernel
theorem dX11_isId_73 : decode cX11_isId 73 = .ok (.isub, 1) := by decide +kernel
theorem dX11_isId_74 : decode cX11_isId 74 = .ok (.istore 4, 2) := by decide +kernel
theorem dX11_isId_76 : decode cX11_isId 76 = .ok (.iinc 5 1, 3) := by decide +kernel
theorem dX11_isId_79 : decode cX11_isId 79 = .ok (.goto (-66), 3) := by decide +kernel
theorem dX11_isId_82 : decode cX11_isId 82 = .ok (.iload_n 3, 1) := by decide +kernel
theorem dX11_isId_83 : decode cX11_isId 83 = .ok (.iconst 1, 1) := by decide +kernel
theorem dX11_isId_84 : decode cX11_isId 84 = .ok (.iconst 4, 1) := by decide +kernel
theorem dX11_isId_85 : decode cX11_isId 85 = .ok (.invokestatic 174, 3) := by decide +kernel
theorem dX11_isId_88 : decode cX11_isId 88 = .ok (.ifCond .ne 5, 3) := by decide +kernel
theorem dX11_isId_91 : decode cX11_isId 91 = .ok (.iconst 0, 1) := by decide +kernel
theorem dX11_isId_92 : decode cX11_isId 92 = .ok (.ireturn, 1) := by decide +kernel
theorem dX11_isId_93 : decode cX11_isId 93 = .ok (.aload_n 0, 1) := by decide +kernel
theorem dX11_isId_94 : decode cX11_isId 94 = .ok (.getfield 156, 3) := by decide +kernel
theorem dX11_isId_97 : decode cX11_isId 97 = .ok (.iload_n 1, 1) := by decide +kernel
theorem dX11_isId_98 : decode cX11_isId 98 = .ok (.iload 4, 2) := by decide +kernel
theorem dX11_isId_100 : decode cX11_isId 100 = .ok (.iastore, 1) := by decide +kernel
theorem dX11_isId_101 : decode cX11_isId 101 = .ok (.iconst 0, 1) := by decide +kernel
theorem dX11_isId_102 : decode cX11_isId 102 = .ok (.istore 5, 2) := by decide +kernel
theorem dX11_isId_104 : decode cX11_isId 104 = .ok (.iconst 0, 1) := by decide +kernel
theorem dX11_isId_105 : decode cX11_isId 105 = .ok (.istore 6, 2) := by decide +kernel
theorem dX11_isId_107 : decode cX11_isId 107 = .ok (.iload 6, 2) := by decide +kernel
theorem dX11_isId_109 : decode cX11_isId 109 = .ok (.iload_n 1, 1) := by decide +kernel
theorem dX11_isId_110 : decode cX11_isId 110 = .ok (.if_icmp .ge 33, 3) := by decide +kernel
theorem dX11_isId_113 : decode cX11_isId 113 = .ok (.iload 5, 2) := by decide +kernel
theorem dX11_isId_115 : decode cX11_isId 115 = .ok (.ifCond .ne 15, 3) := by decide +kernel
theorem dX11_isId_118 : decode cX11_isId 118 = .ok (.aload_n 0, 1) := by decide +kernel
theorem dX11_isId_119 : decode cX11_isId 119 = .ok (.getfield 156, 3) := by decide +kernel
theorem dX11_isId_122 : decode cX11_isId 122 = .ok (.iload 6, 2) := by decide +kernel
theorem dX11_isId_124 : decode cX11_isId 124 = .ok (.iaload, 1) := by decide +kernel
theorem dX11_isId_125 : decode cX11_isId 125 = .ok (.iload 4, 2) := by decide +kernel
theorem dX11_isId_127 : decode cX11_isId 127 = .ok (.if_icmp .ne 7, 3) := by decide +kernel
theorem dX11_isId_130 : decode cX11_isId 130 = .ok (.iconst 1, 1) := by decide +kernel
theorem dX11_isId_131 : decode cX11_isId 131 = .ok (.goto 4, 3) := by decide +kernel
theorem dX11_isId_134 : decode cX11_isId 134 = .ok (.iconst 0, 1) := by decide +kernel
theorem dX11_isId_135 : decode cX11_isId 135 = .ok (.istore 5, 2) := by decide +kernel
theorem dX11_isId_137 : decode cX11_isId 137 = .ok (.iinc 6 1, 3) := by decide +kernel
theorem dX11_isId_140 : decode cX11_isId 140 = .ok (.goto (-33), 3) := by decide +kernel
theorem dX11_isId_143 : decode cX11_isId 143 = .ok (.iload 5, 2) := by decide +kernel
theorem dX11_isId_145 : decode cX11_isId 145 = .ok (.ifCond .ne 7, 3) := by decide +kernel
theorem dX11_isId_148 : decode cX11_isId 148 = .ok (.iconst 1, 1) := by decide +kernel
theorem dX11_isId_149 : decode cX11_isId 149 = .ok (.goto 4, 3) := by decide +kernel
theorem dX11_isId_152 : decode cX11_isId 152 = .ok (.iconst 0, 1) := by decide +kernel
theorem dX11_isId_153 : decode cX11_isId 153 = .ok (.ireturn, 1) := by decide +kernel
theorem dX11_isObjectElement_0 : decode cX11_isObjectElement 0 = .ok (.aload_n 0, 1) := by decide +kernel
theorem dX11_isObjectElement_1 : decode cX11_isObjectElement 1 = .ok (.getfield 120, 3) := by decide +kernel
theorem dX11_isObjectElement_4 : decode cX11_isObjectElement 4 = .ok (.iload_n 1, 1) := by decide +kernel
theorem dX11_isObjectElement_5 : decode cX11_isObjectElement 5 = .ok (.iaload, 1) := by decide +kernel
theorem dX11_isObjectElement_6 : decode cX11_isObjectElement 6 = .ok (.istore_n 3, 1) := by decide +kernel
theorem dX11_isObjectElement_7 : decode cX11_isObjectElement 7 = .ok (.aload_n 0, 1) := by decide +kernel
theorem dX11_isObjectElement_8 : decode cX11_isObjectElement 8 = .ok (.getfield 123, 3) := by decide +kernel
theorem dX11_isObjectElement_11 : decode cX11_isObjectElement 11 = .ok (.iload_n 1, 1) := by decide +kernel
theorem dX11_isObjectElement_12 : decode cX11_isObjectElement 12 = .ok (.iaload, 1) := by decide +kernel
theorem dX11_isObjectElement_13 : decode cX11_isObjectElement 13 = .ok (.istore 4, 2) := by decide +kernel
theorem dX11_isObjectElement_15 : decode cX11_isObjectElement 15 = .ok (.iload 4, 2) := by decide +kernel
theorem dX11_isObjectElement_17 : decode cX11_isObjectElement 17 = .ok (.iconst 1, 1) := by decide +kernel
theorem dX11_isObjectElement_18 : decode cX11_isObjectElement 18 = .ok (.if_icmp .ne 66, 3) := by decide +kernel
theorem dX11_isObjectElement_21 : decode cX11_isObjectElement 21 = .ok (.aload_n 0, 1) := by decide +kernel
theorem dX11_isObjectElement_22 : decode cX11_isObjectElement 22 = .ok (.iload_n 3, 1) := by decide +kernel
theorem dX11_isObjectElement_23 : decode cX11_isObjectElement 23 = .ok (.iconst 2, 1) := by decide +kernel
theorem dX11_isObjectElement_24 : decode cX11_isObjectElement 24 = .ok (.invokevirtual 429, 3) := by decide +kernel
theorem dX11_isObjectElement_27 : decode cX11_isObjectElement 27 = .ok (.ifCond .eq 57, 3) := by decide +kernel
theorem dX11_isObjectElement_30 : decode cX11_isObjectElement 30 = .ok (.aload_n 0, 1) := by decide +kernel
theorem dX11_isObjectElement_31 : decode cX11_isObjectElement 31 = .ok (.getfield 144, 3) := by decide +kernel
theorem dX11_isObjectElement_34 : decode cX11_isObjectElement 34 = .ok (.iload_n 1, 1) := by decide +kernel
theorem dX11_isObjectElement_35 : decode cX11_isObjectElement 35 = .ok (.iconst 5, 1) := by decide +kernel
theorem dX11_isObjectElement_36 : decode cX11_isObjectElement 36 = .ok (.iastore, 1) := by decide +kernel
theorem dX11_isObjectElement_37 : decode cX11_isObjectElement 37 = .ok (.aload_n 0, 1) := by decide +kernel
theorem dX11_isObjectElement_38 : decode cX11_isObjectElement 38 = .ok (.iload_n 1, 1) := by decide +kernel
theorem dX11_isObjectElement_39 : decode cX11_isObjectElement 39 = .ok (.invokevirtual 432, 3) := by decide +kernel
theorem dX11_isObjectElement_42 : decode cX11_isObjectElement 42 = .ok (.ifCond .ne 40, 3) := by decide +kernel
theorem dX11_isObjectElement_45 : decode cX11_isObjectElement 45 = .ok (.aload_n 0, 1) := by decide +kernel
theorem dX11_isObjectElement_46 : decode cX11_isObjectElement 46 = .ok (.iload_n 1, 1) := by decide +kernel
theorem dX11_isObjectElement_47 : decode cX11_isObjectElement 47 = .ok (.invokevirtual 435, 3) := by decide +kernel
theorem dX11_isObjectElement_50 : decode cX11_isObjectElement 50 = .ok (.ifCond .ne 32, 3) := by decide +kernel
theorem dX11_isObjectElement_53 : decode cX11_isObjectElement 53 = .ok (.iload_n 2, 1) := by decide +kernel
theorem dX11_isObjectElement_54 : decode cX11_isObjectElement 54 = .ok (.ifCond .ne 24, 3) := by decide +kernel
theorem dX11_isObjectElement_57 : decode cX11_isObjectElement 57 = .ok (.aload_n 0, 1) := by decide +kernel
theorem dX11_isObjectElement_58 : decode cX11_isObjectElement 58 = .ok (.aload_n 0, 1) := by decide +kernel
theorem dX11_isObjectElement_59 : decode cX11_isObjectElement 59 = .ok (.getfield 108, 3) := by decide +kernel
theorem dX11_isObjectElement_62 : decode cX11_isObjectElement 62 = .ok (.iload_n 1, 1) := by decide +kernel
theorem dX11_isObjectElement_63 : decode cX11_isObjectElement 63 = .ok (.iaload, 1) := by decide +kernel
theorem dX11_isObjectElement_64 : decode cX11_isObjectElement 64 = .ok (.aload_n 0, 1) := by decide +kernel
theorem dX11_isObjectElement_65 : decode cX11_isObjectElement 65 = .ok (.getfield 111, 3) := by decide +kernel
theorem dX11_isObjectElement_68 : decode cX11_isObjectElement 68 = .ok (.iload_n 1, 1) := by decide +kernel
theorem dX11_isObjectElement_69 : decode cX11_isObjectElement 69 = .ok (.iaload, 1) := by decide +kernel
theorem dX11_isObjectElement_70 : decode cX11_isObjectElement 70 = .ok (.invokevirtual 438, 3) := by decide +kernel
theorem dX11_isObjectElement_73 : decode cX11_isObjectElement 73 = .ok (.bipush (-2), 2) := by decide +kernel
theorem dX11_isObjectElement_75 : decode cX11_isObjectElement 75 = .ok (.if_icmp .eq 7, 3) := by decide +kernel
theorem dX11_isObjectElement_78 : decode cX11_isObjectElement 78 = .ok (.iconst 1, 1) := by decide +kernel
theorem dX11_isObjectElement_79 : decode cX11_isObjectElement 79 = .ok (.goto 4, 3) := by decide +kernel
theorem dX11_isObjectElement_82 : decode cX11_isObjectElement 82 = .ok (.iconst 0, 1) := by decide +kernel
theorem dX11_isObjectElement_83 : decode cX11_isObjectElement 83 = .ok (.ireturn, 1) := by decide +kernel
theorem dX11_isObjectElement_84 : decode cX11_isObjectElement 84 = .ok (.iload_n 2, 1) := by decide +kernel
theorem dX11_isObjectElement_85 : decode cX11_isObjectElement 85 = .ok (.ifCond .eq 8, 3) := by decide +kernel
theorem dX11_isObjectElement_88 : decode cX11_isObjectElement 88 = .ok (.bipush (-2), 2) := by decide +kernel
theorem dX11_isObjectElement_90 : decode cX11_isObjectElement 90 = .ok (.goto 19, 3) := by decide +kernel
theorem dX11_isObjectElement_93 : decode cX11_isObjectElement 93 = .ok (.aload_n 0, 1) := by decide +kernel
theorem dX11_isObjectElement_94 : decode cX11_isObjectElement 94 = .ok (.aload_n 0, 1) := by decide +kernel
theorem dX11_isObjectElement_95 : decode cX11_isObjectElement 95 = .ok (.getfield 108, 3) := by decide +kernel
theorem dX11_isObjectElement_98 : decode cX11_isObjectElement 98 = .ok (.iload_n 1, 1) := by decide +kernel
theorem dX11_isObjectElement_99 : decode cX11_isObjectElement 99 = .ok (.iaload, 1) := by decide +kernel
theorem dX11_isObjectElement_100 : decode cX11_isObjectElement 100 = .ok (.aload_n 0, 1) := by decide +kernel
theorem dX11_isObjectElement_101 : decode cX11_isObjectElement 101 = .ok (.getfield 111, 3) := by decide +kernel
theorem dX11_isObjectElement_104 : decode cX11_isObjectElement 104 = .ok (.iload_n 1, 1) := by decide +kernel
theorem dX11_isObjectElement_105 : decode cX11_isObjectElement 105 = .ok (.iaload, 1) := by decide +kernel
theorem dX11_isObjectElement_106 : decode cX11_isObjectElement 106 = .ok (.invokevirtual 438, 3) := by decide +kernel
theorem dX11_isObjectElement_109 : decode cX11_isObjectElement 109 = .ok (.istore 5, 2) := by decide +kernel
theorem dX11_isObjectElement_111 : decode cX11_isObjectElement 111 = .ok (.iload_n 3, 1) := by decide +kernel
theorem dX11_isObjectElement_112 : decode cX11_isObjectElement 112 = .ok (.istore 6, 2) := by decide +kernel
theorem dX11_isObjectElement_114 : decode cX11_isObjectElement 114 = .ok (.iload 6, 2) := by decide +kernel
theorem dX11_isObjectElement_116 : decode cX11_isObjectElement 116 = .ok (.iload_n 3, 1) := by decide +kernel
theorem dX11_isObjectElement_117 : decode cX11_isObjectElement 117 = .ok (.iload 4, 2) := by decide +kernel
theorem dX11_isObjectElement_119 : decode cX11_isObjectElement 119 = .ok (.iadd, 1) := by decide +kernel
theorem dX11_isObjectElement_120 : decode cX11_isObjectElement 120 = .ok (.if_icmp .ge 36, 3) := by decide +kernel
theorem dX11_isObjectElement_123 : decode cX11_isObjectElement 123 = .ok (.iload_n 2, 1) := by decide +kernel
theorem dX11_isObjectElement_124 : decode cX11_isObjectElement 124 = .ok (.ifCond .eq 32, 3) := by decide +kernel
theorem dX11_isObjectElement_127 : decode cX11_isObjectElement 127 = .ok (.aload_n 0, 1) := by decide +kernel
theorem dX11_isObjectElement_128 : decode cX11_isObjectElement 128 = .ok (.iload 6, 2) := by decide +kernel
theorem dX11_isObjectElement_130 : decode cX11_isObjectElement 130 = .ok (.iconst 0, 1) := by decide +kernel
theorem dX11_isObjectElement_131 : decode cX11_isObjectElement 131 = .ok (.invokevirtual 429, 3) := by decide +kernel
theorem dX11_isObjectElement_134 : decode cX11_isObjectElement 134 = .ok (.ifCond .eq 12, 3) := by decide +kernel
theorem dX11_isObjectElement_137 : decode cX11_isObjectElement 137 = .ok (.aload_n 0, 1) := by decide +kernel
theorem dX11_isObjectElement_138 : decode cX11_isObjectElement 138 = .ok (.iload 6, 2) := by decide +kernel
theorem dX11_isObjectElement_140 : decode cX11_isObjectElement 140 = .ok (.invokevirtual 441, 3) := by decide +kernel
theorem dX11_isObjectElement_143 : decode cX11_isObjectElement 143 = .ok (.goto 5, 3) := by decide +kernel
theorem dX11_isObjectElement_146 : decode cX11_isObjectElement 146 = .ok (.iload 5, 2) := by decide +kernel
theorem dX11_isObjectElement_148 : decode cX11_isObjectElement 148 = .ok (.istore 5, 2) := by decide +kernel
theorem dX11_isObjectElement_150 : decode cX11_isObjectElement 150 = .ok (.iinc 6 1, 3) := by decide +kernel
theorem dX11_isObjectElement_153 : decode cX11_isObjectElement 153 = .ok (.goto (-39), 3) := by decide +kernel
theorem dX11_isObjectElement_156 : decode cX11_isObjectElement 156 = .ok (.iload 5, 2) := by decide +kernel
theorem dX11_isObjectElement_158 : decode cX11_isObjectElement 158 = .ok (.bipush (-2), 2) := by decide +kernel
theorem dX11_isObjectElement_160 : decode cX11_isObjectElement 160 = .ok (.if_icmp .eq 22, 3) := by decide +kernel
theorem dX11_isObjectElement_163 : decode cX11_isObjectElement 163 = .ok (.aload_n 0, 1) := by decide +kernel
theorem dX11_isObjectElement_164 : decode cX11_isObjectElement 164 = .ok (.getfield 47, 3) := by decide +kernel
theorem dX11_isObjectElement_167 : decode cX11_isObjectElement 167 = .ok (.iconst 2, 1) := by decide +kernel
theorem dX11_isObjectElement_168 : decode cX11_isObjectElement 168 = .ok (.iaload, 1) := by decide +kernel
theorem dX11_isObjectElement_169 : decode cX11_isObjectElement 169 = .ok (.bipush 30, 2) := by decide +kernel
theorem dX11_isObjectElement_171 : decode cX11_isObjectElement 171 = .ok (.if_icmp .eq 11, 3) := by decide +kernel
theorem dX11_isObjectElement_174 : decode cX11_isObjectElement 174 = .ok (.aload_n 0, 1) := by decide +kernel
theorem dX11_isObjectElement_175 : decode cX11_isObjectElement 175 = .ok (.iload_n 1, 1) := by decide +kernel
theorem dX11_isObjectElement_176 : decode cX11_isObjectElement 176 = .ok (.invokevirtual 444, 3) := by decide +kernel
theorem dX11_isObjectElement_179 : decode cX11_isObjectElement 179 = .ok (.ifCond .ne 5, 3) := by decide +kernel
theorem dX11_isObjectElement_182 : decode cX11_isObjectElement 182 = .ok (.iconst 0, 1) := by decide +kernel
theorem dX11_isObjectElement_183 : decode cX11_isObjectElement 183 = .ok (.ireturn, 1) := by decide +kernel
theorem dX11_isObjectElement_184 : decode cX11_isObjectElement 184 = .ok (.aload_n 0, 1) := by decide +kernel
theorem dX11_isObjectElement_185 : decode cX11_isObjectElement 185 = .ok (.iconst 2, 1) := by decide +kernel
theorem dX11_isObjectElement_186 : decode cX11_isObjectElement 186 = .ok (.iload 5, 2) := by decide +kernel
theorem dX11_isObjectElement_188 : decode cX11_isObjectElement 188 = .ok (.invokevirtual 250, 3) := by decide +kernel
theorem dX11_isObjectElement_191 : decode cX11_isObjectElement 191 = .ok (.bipush 60, 2) := by decide +kernel
theorem dX11_isObjectElement_193 : decode cX11_isObjectElement 193 = .ok (.isub, 1) := by decide +kernel
theorem dX11_isObjectElement_194 : decode cX11_isObjectElement 194 = .ok (.istore 6, 2) := by decide +kernel
theorem dX11_isObjectElement_196 : decode cX11_isObjectElement 196 = .ok (.aload_n 0, 1) := by decide +kernel
theorem dX11_isObjectElement_197 : decode cX11_isObjectElement 197 = .ok (.getfield 144, 3) := by decide +kernel
theorem dX11_isObjectElement_200 : decode cX11_isObjectElement 200 = .ok (.iload_n 1, 1) := by decide +kernel
theorem dX11_isObjectElement_201 : decode cX11_isObjectElement 201 = .ok (.iconst 4, 1) := by decide +kernel
theorem dX11_isObjectElement_202 : decode cX11_isObjectElement 202 = .ok (.iastore, 1) := by decide +kernel
theorem dX11_isObjectElement_203 : decode cX11_isObjectElement 203 = .ok (.aload_n 0, 1) := by decide +kernel
theorem dX11_isObjectElement_204 : decode cX11_isObjectElement 204 = .ok (.getfield 147, 3) := by decide +kernel
theorem dX11_isObjectElement_207 : decode cX11_isObjectElement 207 = .ok (.iload_n 1, 1) := by decide +kernel
theorem dX11_isObjectElement_208 : decode cX11_isObjectElement 208 = .ok (.iload 6, 2) := by decide +kernel
theorem dX11_isObjectElement_210 : decode cX11_isObjectElement 210 = .ok (.iastore, 1) := by decide +kernel
theorem dX11_isObjectElement_211 : decode cX11_isObjectElement 211 = .ok (.iconst 0, 1) := by decide +kernel
theorem dX11_isObjectElement_212 : decode cX11_isObjectElement 212 = .ok (.istore 7, 2) := by decide +kernel
theorem dX11_isObjectElement_214 : decode cX11_isObjectElement 214 = .ok (.iload 7, 2) := by decide +kernel
theorem dX11_isObjectElement_216 : decode cX11_isObjectElement 216 = .ok (.iconst 4, 1) := by decide +kernel
theorem dX11_isObjectElement_217 : decode cX11_isObjectElement 217 = .ok (.if_icmp .ge 22, 3) := by decide +kernel
theorem dX11_isObjectElement_220 : decode cX11_isObjectElement 220 = .ok (.aload_n 0, 1) := by decide +kernel
theorem dX11_isObjectElement_221 : decode cX11_isObjectElement 221 = .ok (.getfield 159, 3) := by decide +kernel
theorem dX11_isObjectElement_224 : decode cX11_isObjectElement 224 = .ok (.iconst 4, 1) := by decide +kernel
theorem dX11_isObjectElement_225 : decode cX11_isObjectElement 225 = .ok (.iload 6, 2) := by decide +kernel
theorem dX11_isObjectElement_227 : decode cX11_isObjectElement 227 = .ok (.imul, 1) := by decide +kernel
theorem dX11_isObjectElement_228 : decode cX11_isObjectElement 228 = .ok (.iload 7, 2) := by decide +kernel
theorem dX11_isObjectElement_230 : decode cX11_isObjectElement 230 = .ok (.iadd, 1) := by decide +kernel
theorem dX11_isObjectElement_231 : decode cX11_isObjectElement 231 = .ok (.iconst 0, 1) := by decide +kernel
theorem dX11_isObjectElement_232 : decode cX11_isObjectElement 232 = .ok (.iastore, 1) := by decide +kernel
theorem dX11_isObjectElement_233 : decode cX11_isObjectElement 233 = .ok (.iinc 7 1, 3) := by decide +kernel
theorem dX11_isObjectElement_236 : decode cX11_isObjectElement 236 = .ok (.goto (-22), 3) := by decide +kernel
theorem dX11_isObjectElement_239 : decode cX11_isObjectElement 239 = .ok (.iconst 1, 1) := by decide +kernel
theorem dX11_isObjectElement_240 : decode cX11_isObjectElement 240 = .ok (.istore 7, 2) := by decide +kernel
theorem dX11_isObjectElement_242 : decode cX11_isObjectElement 242 = .ok (.iload_n 3, 1) := by decide +kernel
theorem dX11_isObjectElement_243 : decode cX11_isObjectElement 243 = .ok (.istore 8, 2) := by decide +kernel
theorem dX11_isObjectElement_245 : decode cX11_isObjectElement 245 = .ok (.iload 8, 2) := by decide +kernel
theorem dX11_isObjectElement_247 : decode cX11_isObjectElement 247 = .ok (.iload_n 3, 1) := by decide +kernel
theorem dX11_isObjectElement_248 : decode cX11_isObjectElement 248 = .ok (.iload 4, 2) := by decide +kernel
theorem dX11_isObjectElement_250 : decode cX11_isObjectElement 250 = .ok (.iadd, 1) := by decide +kernel
theorem dX11_isObjectElement_251 : decode cX11_isObjectElement 251 = .ok (.if_icmp .ge 104, 3) := by decide +kernel
theorem dX11_isObjectElement_254 : decode cX11_isObjectElement 254 = .ok (.iload 7, 2) := by decide +kernel
theorem dX11_isObjectElement_256 : decode cX11_isObjectElement 256 = .ok (.ifCond .eq 99, 3) := by decide +kernel
theorem dX11_isObjectElement_259 : decode cX11_isObjectElement 259 = .ok (.aload_n 0, 1) := by decide +kernel
theorem dX11_isObjectElement_260 : decode cX11_isObjectElement 260 = .ok (.iload 5, 2) := by decide +kernel
theorem dX11_isObjectElement_262 : decode cX11_isObjectElement 262 = .ok (.aload_n 0, 1) := by decide +kernel
theorem dX11_isObjectElement_263 : decode cX11_isObjectElement 263 = .ok (.getfield 126, 3) := by decide +kernel
theorem dX11_isObjectElement_266 : decode cX11_isObjectElement 266 = .ok (.iload 8, 2) := by decide +kernel
theorem dX11_isObjectElement_268 : decode cX11_isObjectElement 268 = .ok (.iaload, 1) := by decide +kernel
theorem dX11_isObjectElement_269 : decode cX11_isObjectElement 269 = .ok (.aload_n 0, 1) := by decide +kernel
theorem dX11_isObjectElement_270 : decode cX11_isObjectElement 270 = .ok (.getfield 129, 3) := by decide +kernel
theorem dX11_isObjectElement_273 : decode cX11_isObjectElement 273 = .ok (.iload 8, 2) := by decide +kernel
theorem dX11_isObjectElement_275 : decode cX11_isObjectElement 275 = .ok (.iaload, 1) := by decide +kernel
theorem dX11_isObjectElement_276 : decode cX11_isObjectElement 276 = .ok (.iconst 1, 1) := by decide +kernel
theorem dX11_isObjectElement_277 : decode cX11_isObjectElement 277 = .ok (.invokevirtual 447, 3) := by decide +kernel
theorem dX11_isObjectElement_280 : decode cX11_isObjectElement 280 = .ok (.istore 9, 2) := by decide +kernel
theorem dX11_isObjectElement_282 : decode cX11_isObjectElement 282 = .ok (.iload 9, 2) := by decide +kernel
theorem dX11_isObjectElement_284 : decode cX11_isObjectElement 284 = .ok (.bipush (-2), 2) := by decide +kernel
theorem dX11_isObjectElement_286 : decode cX11_isObjectElement 286 = .ok (.if_icmp .eq 22, 3) := by decide +kernel
theorem dX11_isObjectElement_289 : decode cX11_isObjectElement 289 = .ok (.aload_n 0, 1) := by decide +kernel
theorem dX11_isObjectElement_290 : decode cX11_isObjectElement 290 = .ok (.iload 8, 2) := by decide +kernel
theorem dX11_isObjectElement_292 : decode cX11_isObjectElement 292 = .ok (.invokevirtual 451, 3) := by decide +kernel
theorem dX11_isObjectElement_295 : decode cX11_isObjectElement 295 = .ok (.aload_n 0, 1) := by decide +kernel
theorem dX11_isObjectElement_296 : decode cX11_isObjectElement 296 = .ok (.iload 6, 2) := by decide +kernel
theorem dX11_isObjectElement_298 : decode cX11_isObjectElement 298 = .ok (.iload 9, 2) := by decide +kernel
theorem dX11_isObjectElement_300 : decode cX11_isObjectElement 300 = .ok (.invokevirtual 454, 3) := by decide +kernel
theorem dX11_isObjectElement_303 : decode cX11_isObjectElement 303 = .ok (.istore 7, 2) := by decide +kernel
theorem dX11_isObjectElement_305 : decode cX11_isObjectElement 305 = .ok (.goto 44, 3) := by decide +kernel
theorem dX11_isObjectElement_308 : decode cX11_isObjectElement 308 = .ok (.iload_n 2, 1) := by decide +kernel
theorem dX11_isObjectElement_309 : decode cX11_isObjectElement 309 = .ok (.ifCond .eq 13, 3) := by decide +kernel
theorem dX11_isObjectElement_312 : decode cX11_isObjectElement 312 = .ok (.aload_n 0, 1) := by decide +kernel
theorem dX11_isObjectElement_313 : decode cX11_isObjectElement 313 = .ok (.iload 8, 2) := by decide +kernel
theorem dX11_isObjectElement_315 : decode cX11_isObjectElement 315 = .ok (.iconst 0, 1) := by decide +kernel
theorem dX11_isObjectElement_316 : decode cX11_isObjectElement 316 = .ok (.invokevirtual 429, 3) := by decide +kernel
theorem dX11_isObjectElement_319 : decode cX11_isObjectElement 319 = .ok (.ifCond .ne 23, 3) := by decide +kernel
theorem dX11_isObjectElement_322 : decode cX11_isObjectElement 322 = .ok (.aload_n 0, 1) := by decide +kernel
theorem dX11_isObjectElement_323 : decode cX11_isObjectElement 323 = .ok (.iload 8, 2) := by decide +kernel
theorem dX11_isObjectElement_325 : decode cX11_isObjectElement 325 = .ok (.iconst 1, 1) := by decide +kernel
theorem dX11_isObjectElement_326 : decode cX11_isObjectElement 326 = .ok (.invokevirtual 429, 3) := by decide +kernel
theorem dX11_isObjectElement_329 : decode cX11_isObjectElement 329 = .ok (.ifCond .eq 17, 3) := by decide +kernel
theorem dX11_isObjectElement_332 : decode cX11_isObjectElement 332 = .ok (.aload_n 0, 1) := by decide +kernel
theorem dX11_isObjectElement_333 : decode cX11_isObjectElement 333 = .ok (.iload_n 1, 1) := by decide +kernel
theorem dX11_isObjectElement_334 : decode cX11_isObjectElement 334 = .ok (.iload 8, 2) := by decide +kernel
theorem dX11_isObjectElement_336 : decode cX11_isObjectElement 336 = .ok (.invokevirtual 457, 3) := by decide +kernel
theorem dX11_isObjectElement_339 : decode cX11_isObjectElement 339 = .ok (.ifCond .eq 7, 3) := by decide +kernel
theorem dX11_isObjectElement_342 : decode cX11_isObjectElement 342 = .ok (.iconst 1, 1) := by decide +kernel
theorem dX11_isObjectElement_343 : decode cX11_isObjectElement 343 = .ok (.goto 4, 3) := by decide +kernel
theorem dX11_isObjectElement_346 : decode cX11_isObjectElement 346 = .ok (.iconst 0, 1) := by decide +kernel
theorem dX11_isObjectElement_347 : decode cX11_isObjectElement 347 = .ok (.istore 7, 2) := by decide +kernel
theorem dX11_isObjectElement_349 : decode cX11_isObjectElement 349 = .ok (.iinc 8 1, 3) := by decide +kernel
theorem dX11_isObjectElement_352 : decode cX11_isObjectElement 352 = .ok (.goto (-107), 3) := by decide +kernel
theorem dX11_isObjectElement_355 : decode cX11_isObjectElement 355 = .ok (.iload 7, 2) := by decide +kernel
theorem dX11_isObjectElement_357 : decode cX11_isObjectElement 357 = .ok (.ireturn, 1) := by decide +kernel
theorem dX11_classOfValue_0 : decode cX11_classOfValue 0 = .ok (.bipush (-2), 2) := by decide +kernel
theorem dX11_classOfValue_2 : decode cX11_classOfValue 2 = .ok (.istore_n 2, 1) := by decide +kernel
theorem dX11_classOfValue_3 : decode cX11_classOfValue 3 = .ok (.iconst 0, 1) := by decide +kernel
theorem dX11_classOfValue_4 : decode cX11_classOfValue 4 = .ok (.istore_n 3, 1) := by decide +kernel
theorem dX11_classOfValue_5 : decode cX11_classOfValue 5 = .ok (.iload_n 3, 1) := by decide +kernel
theorem dX11_classOfValue_6 : decode cX11_classOfValue 6 = .ok (.aload_n 0, 1) := by decide +kernel
theorem dX11_classOfValue_7 : decode cX11_classOfValue 7 = .ok (.getfield 238, 3) := by decide +kernel
theorem dX11_classOfValue_10 : decode cX11_classOfValue 10 = .ok (.if_icmp .ge 106, 3) := by decide +kernel
theorem dX11_classOfValue_13 : decode cX11_classOfValue 13 = .ok (.aload_n 0, 1) := by decide +kernel
theorem dX11_classOfValue_14 : decode cX11_classOfValue 14 = .ok (.getfield 29, 3) := by decide +kernel
theorem dX11_classOfValue_17 : decode cX11_classOfValue 17 = .ok (.iload_n 3, 1) := by decide +kernel
theorem dX11_classOfValue_18 : decode cX11_classOfValue 18 = .ok (.baload, 1) := by decide +kernel
theorem dX11_classOfValue_19 : decode cX11_classOfValue 19 = .ok (.ifCond .ne 21, 3) := by decide +kernel
theorem dX11_classOfValue_22 : decode cX11_classOfValue 22 = .ok (.aload_n 0, 1) := by decide +kernel
theorem dX11_classOfValue_23 : decode cX11_classOfValue 23 = .ok (.iload_n 3, 1) := by decide +kernel
theorem dX11_classOfValue_24 : decode cX11_classOfValue 24 = .ok (.aload_n 0, 1) := by decide +kernel
theorem dX11_classOfValue_25 : decode cX11_classOfValue 25 = .ok (.getfield 135, 3) := by decide +kernel
theorem dX11_classOfValue_28 : decode cX11_classOfValue 28 = .ok (.iload_n 1, 1) := by decide +kernel
theorem dX11_classOfValue_29 : decode cX11_classOfValue 29 = .ok (.iaload, 1) := by decide +kernel
theorem dX11_classOfValue_30 : decode cX11_classOfValue 30 = .ok (.invokevirtual 411, 3) := by decide +kernel
theorem dX11_classOfValue_33 : decode cX11_classOfValue 33 = .ok (.ifCond .ne 7, 3) := by decide +kernel
theorem dX11_classOfValue_36 : decode cX11_classOfValue 36 = .ok (.iconst 1, 1) := by decide +kernel
theorem dX11_classOfValue_37 : decode cX11_classOfValue 37 = .ok (.goto 4, 3) := by decide +kernel
theorem dX11_classOfValue_40 : decode cX11_classOfValue 40 = .ok (.iconst 0, 1) := by decide +kernel
theorem dX11_classOfValue_41 : decode cX11_classOfValue 41 = .ok (.istore 4, 2) := by decide +kernel
theorem dX11_classOfValue_43 : decode cX11_classOfValue 43 = .ok (.iconst 0, 1) := by decide +kernel
theorem dX11_classOfValue_44 : decode cX11_classOfValue 44 = .ok (.istore 5, 2) := by decide +kernel
theorem dX11_classOfValue_46 : decode cX11_classOfValue 46 = .ok (.iload 5, 2) := by decide +kernel
theorem dX11_classOfValue_48 : decode cX11_classOfValue 48 = .ok (.aload_n 0, 1) := by decide +kernel
theorem dX11_classOfValue_49 : decode cX11_classOfValue 49 = .ok (.getfield 135, 3) := by decide +kernel
theorem dX11_classOfValue_52 : decode cX11_classOfValue 52 = .ok (.iload_n 1, 1) := by decide +kernel
theorem dX11_classOfValue_53 : decode cX11_classOfValue 53 = .ok (.iaload, 1) := by decide +kernel
theorem dX11_classOfValue_54 : decode cX11_classOfValue 54 = .ok (.if_icmp .ge 45, 3) := by decide +kernel
theorem dX11_classOfValue_57 : decode cX11_classOfValue 57 = .ok (.iload 4, 2) := by decide +kernel
theorem dX11_classOfValue_59 : decode cX11_classOfValue 59 = .ok (.ifCond .eq 40, 3) := by decide +kernel
theorem dX11_classOfValue_62 : decode cX11_classOfValue 62 = .ok (.aload_n 0, 1) := by decide +kernel
theorem dX11_classOfValue_63 : decode cX11_classOfValue 63 = .ok (.getfield 138, 3) := by decide +kernel
theorem dX11_classOfValue_66 : decode cX11_classOfValue 66 = .ok (.aload_n 0, 1) := by decide +kernel
theorem dX11_classOfValue_67 : decode cX11_classOfValue 67 = .ok (.getfield 132, 3) := by decide +kernel
theorem dX11_classOfValue_70 : decode cX11_classOfValue 70 = .ok (.iload_n 1, 1) := by decide +kernel
theorem dX11_classOfValue_71 : decode cX11_classOfValue 71 = .ok (.iaload, 1) := by decide +kernel
theorem dX11_classOfValue_72 : decode cX11_classOfValue 72 = .ok (.iload 5, 2) := by decide +kernel
theorem dX11_classOfValue_74 : decode cX11_classOfValue 74 = .ok (.iadd, 1) := by decide +kernel
theorem dX11_classOfValue_75 : decode cX11_classOfValue 75 = .ok (.iaload, 1) := by decide +kernel
theorem dX11_classOfValue_76 : decode cX11_classOfValue 76 = .ok (.aload_n 0, 1) := by decide +kernel
theorem dX11_classOfValue_77 : decode cX11_classOfValue 77 = .ok (.iload_n 3, 1) := by decide +kernel
theorem dX11_classOfValue_78 : decode cX11_classOfValue 78 = .ok (.iload 5, 2) := by decide +kernel
theorem dX11_classOfValue_80 : decode cX11_classOfValue 80 = .ok (.invokevirtual 411, 3) := by decide +kernel
theorem dX11_classOfValue_83 : decode cX11_classOfValue 83 = .ok (.if_icmp .ne 7, 3) := by decide +kernel
theorem dX11_classOfValue_86 : decode cX11_classOfValue 86 = .ok (.iconst 1, 1) := by decide +kernel
theorem dX11_classOfValue_87 : decode cX11_classOfValue 87 = .ok (.goto 4, 3) := by decide +kernel
theorem dX11_classOfValue_90 : decode cX11_classOfValue 90 = .ok (.iconst 0, 1) := by decide +kernel
theorem dX11_classOfValue_91 : decode cX11_classOfValue 91 = .ok (.istore 4, 2) := by decide +kernel
theorem dX11_classOfValue_93 : decode cX11_classOfValue 93 = .ok (.iinc 5 1, 3) := by decide +kernel
theorem dX11_classOfValue_96 : decode cX11_classOfValue 96 = .ok (.goto (-50), 3) := by decide +kernel
theorem dX11_classOfValue_99 : decode cX11_classOfValue 99 = .ok (.iload 4, 2) := by decide +kernel
theorem dX11_classOfValue_101 : decode cX11_classOfValue 101 = .ok (.ifCond .eq 7, 3) := by decide +kernel
theorem dX11_classOfValue_104 : decode cX11_classOfValue 104 = .ok (.iload_n 3, 1) := by decide +kernel
theorem dX11_classOfValue_105 : decode cX11_classOfValue 105 = .ok (.goto 4, 3) := by decide +kernel
theorem dX11_classOfValue_108 : decode cX11_classOfValue 108 = .ok (.iload_n 2, 1) := by decide +kernel
theorem dX11_classOfValue_109 : decode cX11_classOfValue 109 = .ok (.istore_n 2, 1) := by decide +kernel
theorem dX11_classOfValue_110 : decode cX11_classOfValue 110 = .ok (.iinc 3 1, 3) := by decide +kernel
theorem dX11_classOfValue_113 : decode cX11_classOfValue 113 = .ok (.goto (-108), 3) := by decide +kernel
theorem dX11_classOfValue_116 : decode cX11_classOfValue 116 = .ok (.iload_n 2, 1) := by decide +kernel
theorem dX11_classOfValue_117 : decode cX11_classOfValue 117 = .ok (.ireturn, 1) := by decide +kernel
theorem dX11_isListed_0 : decode cX11_isListed 0 = .ok (.iconst 4, 1) := by decide +kernel
theorem dX11_isListed_1 : decode cX11_isListed 1 = .ok (.bipush 60, 2) := by decide +kernel
theorem dX11_isListed_3 : decode cX11_isListed 3 = .ok (.iload_n 2, 1) := by decide +kernel
theorem dX11_isListed_4 : decode cX11_isListed 4 = .ok (.iadd, 1) := by decide +kernel
theorem dX11_isListed_5 : decode cX11_isListed 5 = .ok (.imul, 1) := by decide +kernel
theorem dX11_isListed_6 : decode cX11_isListed 6 = .ok (.iload_n 3, 1) := by decide +kernel
theorem dX11_isListed_7 : decode cX11_isListed 7 = .ok (.iadd, 1) := by decide +kernel
theorem dX11_isListed_8 : decode cX11_isListed 8 = .ok (.istore 4, 2) := by decide +kernel
theorem dX11_isListed_10 : decode cX11_isListed 10 = .ok (.aload_n 0, 1) := by decide +kernel
theorem dX11_isListed_11 : decode cX11_isListed 11 = .ok (.getfield 53, 3) := by decide +kernel
theorem dX11_isListed_14 : decode cX11_isListed 14 = .ok (.iload 4, 2) := by decide +kernel
theorem dX11_isListed_16 : decode cX11_isListed 16 = .ok (.iaload, 1) := by decide +kernel
theorem dX11_isListed_17 : decode cX11_isListed 17 = .ok (.bipush 8, 2) := by decide +kernel
theorem dX11_isListed_19 : decode cX11_isListed 19 = .ok (.if_icmp .ne 5, 3) := by decide +kernel
theorem dX11_isListed_22 : decode cX11_isListed 22 = .ok (.iconst 0, 1) := by decide +kernel
theorem dX11_isListed_23 : decode cX11_isListed 23 = .ok (.ireturn, 1) := by decide +kernel
theorem dX11_isListed_24 : decode cX11_isListed 24 = .ok (.aload_n 0, 1) := by decide +kernel
theorem dX11_isListed_25 : decode cX11_isListed 25 = .ok (.getfield 150, 3) := by decide +kernel
theorem dX11_isListed_28 : decode cX11_isListed 28 = .ok (.iload_n 1, 1) := by decide +kernel
theorem dX11_isListed_29 : decode cX11_isListed 29 = .ok (.iload 4, 2) := by decide +kernel
theorem dX11_isListed_31 : decode cX11_isListed 31 = .ok (.iastore, 1) := by decide +kernel
theorem dX11_isListed_32 : decode cX11_isListed 32 = .ok (.aload_n 0, 1) := by decide +kernel
theorem dX11_isListed_33 : decode cX11_isListed 33 = .ok (.getfield 153, 3) := by decide +kernel
theorem dX11_isListed_36 : decode cX11_isListed 36 = .ok (.iload_n 1, 1) := by decide +kernel
theorem dX11_isListed_37 : decode cX11_isListed 37 = .ok (.aload_n 0, 1) := by decide +kernel
theorem dX11_isListed_38 : decode cX11_isListed 38 = .ok (.getfield 53, 3) := by decide +kernel
theorem dX11_isListed_41 : decode cX11_isListed 41 = .ok (.iload 4, 2) := by decide +kernel
theorem dX11_isListed_43 : decode cX11_isListed 43 = .ok (.iaload, 1) := by decide +kernel
theorem dX11_isListed_44 : decode cX11_isListed 44 = .ok (.iastore, 1) := by decide +kernel
theorem dX11_isListed_45 : decode cX11_isListed 45 = .ok (.aload_n 0, 1) := by decide +kernel
theorem dX11_isListed_46 : decode cX11_isListed 46 = .ok (.getfield 53, 3) := by decide +kernel
theorem dX11_isListed_49 : decode cX11_isListed 49 = .ok (.iload 4, 2) := by decide +kernel
theorem dX11_isListed_51 : decode cX11_isListed 51 = .ok (.dup2, 1) := by decide +kernel
theorem dX11_isListed_52 : decode cX11_isListed 52 = .ok (.iaload, 1) := by decide +kernel
theorem dX11_isListed_53 : decode cX11_isListed 53 = .ok (.iconst 1, 1) := by decide +kernel
theorem dX11_isListed_54 : decode cX11_isListed 54 = .ok (.iadd, 1) := by decide +kernel
theorem dX11_isListed_55 : decode cX11_isListed 55 = .ok (.iastore, 1) := by decide +kernel
theorem dX11_isListed_56 : decode cX11_isListed 56 = .ok (.aload_n 0, 1) := by decide +kernel
theorem dX11_isListed_57 : decode cX11_isListed 57 = .ok (.iload_n 1, 1) := by decide +kernel
theorem dX11_isListed_58 : decode cX11_isListed 58 = .ok (.iconst 0, 1) := by decide +kernel
theorem dX11_isListed_59 : decode cX11_isListed 59 = .ok (.invokevirtual 460, 3) := by decide +kernel
theorem dX11_isListed_62 : decode cX11_isListed 62 = .ok (.istore 5, 2) := by decide +kernel
theorem dX11_isListed_64 : decode cX11_isListed 64 = .ok (.aload_n 0, 1) := by decide +kernel
theorem dX11_isListed_65 : decode cX11_isListed 65 = .ok (.getfield 56, 3) := by decide +kernel
theorem dX11_isListed_68 : decode cX11_isListed 68 = .ok (.bipush 20, 2) := by decide +kernel
theorem dX11_isListed_70 : decode cX11_isListed 70 = .ok (.iload 4, 2) := by decide +kernel
theorem dX11_isListed_72 : decode cX11_isListed 72 = .ok (.imul, 1) := by decide +kernel
theorem dX11_isListed_73 : decode cX11_isListed 73 = .ok (.aload_n 0, 1) := by decide +kernel
theorem dX11_isListed_74 : decode cX11_isListed 74 = .ok (.getfield 153, 3) := by decide +kernel
theorem dX11_isListed_77 : decode cX11_isListed 77 = .ok (.iload_n 1, 1) := by decide +kernel
theorem dX11_isListed_78 : decode cX11_isListed 78 = .ok (.iaload, 1) := by decide +kernel
theorem dX11_isListed_79 : decode cX11_isListed 79 = .ok (.iadd, 1) := by decide +kernel
theorem dX11_isListed_80 : decode cX11_isListed 80 = .ok (.aload_n 0, 1) := by decide +kernel
theorem dX11_isListed_81 : decode cX11_isListed 81 = .ok (.getfield 144, 3) := by decide +kernel
theorem dX11_isListed_84 : decode cX11_isListed 84 = .ok (.iload_n 1, 1) := by decide +kernel
theorem dX11_isListed_85 : decode cX11_isListed 85 = .ok (.iaload, 1) := by decide +kernel
theorem dX11_isListed_86 : decode cX11_isListed 86 = .ok (.iconst 4, 1) := by decide +kernel
theorem dX11_isListed_87 : decode cX11_isListed 87 = .ok (.if_icmp .ne 12, 3) := by decide +kernel
theorem dX11_isListed_90 : decode cX11_isListed 90 = .ok (.aload_n 0, 1) := by decide +kernel
theorem dX11_isListed_91 : decode cX11_isListed 91 = .ok (.getfield 147, 3) := by decide +kernel
theorem dX11_isListed_94 : decode cX11_isListed 94 = .ok (.iload_n 1, 1) := by decide +kernel
theorem dX11_isListed_95 : decode cX11_isListed 95 = .ok (.iaload, 1) := by decide +kernel
theorem dX11_isListed_96 : decode cX11_isListed 96 = .ok (.goto 5, 3) := by decide +kernel
theorem dX11_isListed_99 : decode cX11_isListed 99 = .ok (.bipush (-2), 2) := by decide +kernel
theorem dX11_isListed_101 : decode cX11_isListed 101 = .ok (.iastore, 1) := by decide +kernel
theorem dX11_isListed_102 : decode cX11_isListed 102 = .ok (.iload 5, 2) := by decide +kernel
theorem dX11_isListed_104 : decode cX11_isListed 104 = .ok (.ireturn, 1) := by decide +kernel
theorem dX11_hasMeaning_0 : decode cX11_hasMeaning 0 = .ok (.aload_n 0, 1) := by decide +kernel
theorem dX11_hasMeaning_1 : decode cX11_hasMeaning 1 = .ok (.getfield 114, 3) := by decide +kernel
theorem dX11_hasMeaning_4 : decode cX11_hasMeaning 4 = .ok (.iload_n 1, 1) := by decide +kernel
theorem dX11_hasMeaning_5 : decode cX11_hasMeaning 5 = .ok (.iaload, 1) := by decide +kernel
theorem dX11_hasMeaning_6 : decode cX11_hasMeaning 6 = .ok (.istore_n 2, 1) := by decide +kernel
theorem dX11_hasMeaning_7 : decode cX11_hasMeaning 7 = .ok (.aload_n 0, 1) := by decide +kernel
theorem dX11_hasMeaning_8 : decode cX11_hasMeaning 8 = .ok (.getfield 144, 3) := by decide +kernel
theorem dX11_hasMeaning_11 : decode cX11_hasMeaning 11 = .ok (.iload_n 1, 1) := by decide +kernel
theorem dX11_hasMeaning_12 : decode cX11_hasMeaning 12 = .ok (.bipush (-2), 2) := by decide +kernel
theorem dX11_hasMeaning_14 : decode cX11_hasMeaning 14 = .ok (.iastore, 1) := by decide +kernel
theorem dX11_hasMeaning_15 : decode cX11_hasMeaning 15 = .ok (.aload_n 0, 1) := by decide +kernel
theorem dX11_hasMeaning_16 : decode cX11_hasMeaning 16 = .ok (.getfield 156, 3) := by decide +kernel
theorem dX11_hasMeaning_19 : decode cX11_hasMeaning 19 = .ok (.iload_n 1, 1) := by decide +kernel
theorem dX11_hasMeaning_20 : decode cX11_hasMeaning 20 = .ok (.iconst 0, 1) := by decide +kernel
theorem dX11_hasMeaning_21 : decode cX11_hasMeaning 21 = .ok (.iastore, 1) := by decide +kernel
theorem dX11_hasMeaning_22 : decode cX11_hasMeaning 22 = .ok (.iload_n 2, 1) := by decide +kernel
theorem dX11_hasMeaning_23 : decode cX11_hasMeaning 23 = .ok (.bipush (-2), 2) := by decide +kernel
theorem dX11_hasMeaning_25 : decode cX11_hasMeaning 25 = .ok (.if_icmp .ne 18, 3) := by decide +kernel
theorem dX11_hasMeaning_28 : decode cX11_hasMeaning 28 = .ok (.aload_n 0, 1) := by decide +kernel
theorem dX11_hasMeaning_29 : decode cX11_hasMeaning 29 = .ok (.getfield 150, 3) := by decide +kernel
theorem dX11_hasMeaning_32 : decode cX11_hasMeaning 32 = .ok (.iload_n 1, 1) := by decide +kernel
theorem dX11_hasMeaning_33 : decode cX11_hasMeaning 33 = .ok (.bipush (-2), 2) := by decide +kernel
theorem dX11_hasMeaning_35 : decode cX11_hasMeaning 35 = .ok (.iastore, 1) := by decide +kernel
theorem dX11_hasMeaning_36 : decode cX11_hasMeaning 36 = .ok (.aload_n 0, 1) := by decide +kernel
theorem dX11_hasMeaning_37 : decode cX11_hasMeaning 37 = .ok (.iload_n 1, 1) := by decide +kernel
theorem dX11_hasMeaning_38 : decode cX11_hasMeaning 38 = .ok (.iconst 0, 1) := by decide +kernel
theorem dX11_hasMeaning_39 : decode cX11_hasMeaning 39 = .ok (.invokevirtual 460, 3) := by decide +kernel
theorem dX11_hasMeaning_42 : decode cX11_hasMeaning 42 = .ok (.ireturn, 1) := by decide +kernel
theorem dX11_hasMeaning_43 : decode cX11_hasMeaning 43 = .ok (.aload_n 0, 1) := by decide +kernel
theorem dX11_hasMeaning_44 : decode cX11_hasMeaning 44 = .ok (.getfield 147, 3) := by decide +kernel
theorem dX11_hasMeaning_47 : decode cX11_hasMeaning 47 = .ok (.iload_n 2, 1) := by decide +kernel
theorem dX11_hasMeaning_48 : decode cX11_hasMeaning 48 = .ok (.iaload, 1) := by decide +kernel
theorem dX11_hasMeaning_49 : decode cX11_hasMeaning 49 = .ok (.istore_n 3, 1) := by decide +kernel
theorem dX11_hasMeaning_50 : decode cX11_hasMeaning 50 = .ok (.aload_n 0, 1) := by decide +kernel
theorem dX11_hasMeaning_51 : decode cX11_hasMeaning 51 = .ok (.getfield 144, 3) := by decide +kernel
theorem dX11_hasMeaning_54 : decode cX11_hasMeaning 54 = .ok (.iload_n 2, 1) := by decide +kernel
theorem dX11_hasMeaning_55 : decode cX11_hasMeaning 55 = .ok (.iaload, 1) := by decide +kernel
theorem dX11_hasMeaning_56 : decode cX11_hasMeaning 56 = .ok (.iconst 3, 1) := by decide +kernel
theorem dX11_hasMeaning_57 : decode cX11_hasMeaning 57 = .ok (.if_icmp .ne 18, 3) := by decide +kernel
theorem dX11_hasMeaning_60 : decode cX11_hasMeaning 60 = .ok (.aload_n 0, 1) := by decide +kernel
theorem dX11_hasMeaning_61 : decode cX11_hasMeaning 61 = .ok (.iload_n 1, 1) := by decide +kernel
theorem dX11_hasMeaning_62 : decode cX11_hasMeaning 62 = .ok (.iload_n 3, 1) := by decide +kernel
theorem dX11_hasMeaning_63 : decode cX11_hasMeaning 63 = .ok (.aload_n 0, 1) := by decide +kernel
theorem dX11_hasMeaning_64 : decode cX11_hasMeaning 64 = .ok (.getfield 150, 3) := by decide +kernel
theorem dX11_hasMeaning_67 : decode cX11_hasMeaning 67 = .ok (.iload_n 2, 1) := by decide +kernel
theorem dX11_hasMeaning_68 : decode cX11_hasMeaning 68 = .ok (.iaload, 1) := by decide +kernel
theorem dX11_hasMeaning_69 : decode cX11_hasMeaning 69 = .ok (.iconst 4, 1) := by decide +kernel
theorem dX11_hasMeaning_70 : decode cX11_hasMeaning 70 = .ok (.irem, 1) := by decide +kernel
theorem dX11_hasMeaning_71 : decode cX11_hasMeaning 71 = .ok (.invokevirtual 464, 3) := by decide +kernel
theorem dX11_hasMeaning_74 : decode cX11_hasMeaning 74 = .ok (.ireturn, 1) := by decide +kernel
theorem dX11_hasMeaning_75 : decode cX11_hasMeaning 75 = .ok (.aload_n 0, 1) := by decide +kernel
theorem dX11_hasMeaning_76 : decode cX11_hasMeaning 76 = .ok (.getfield 50, 3) := by decide +kernel
theorem dX11_hasMeaning_79 : decode cX11_hasMeaning 79 = .ok (.bipush 60, 2) := by decide +kernel
theorem dX11_hasMeaning_81 : decode cX11_hasMeaning 81 = .ok (.iload_n 3, 1) := by decide +kernel
theorem dX11_hasMeaning_82 : decode cX11_hasMeaning 82 = .ok (.iadd, 1) := by decide +kernel
theorem dX11_hasMeaning_83 : decode cX11_hasMeaning 83 = .ok (.iaload, 1) := by decide +kernel
theorem dX11_hasMeaning_84 : decode cX11_hasMeaning 84 = .ok (.istore 4, 2) := by decide +kernel
theorem dX11_hasMeaning_86 : decode cX11_hasMeaning 86 = .ok (.aload_n 0, 1) := by decide +kernel
theorem dX11_hasMeaning_87 : decode cX11_hasMeaning 87 = .ok (.iload 4, 2) := by decide +kernel
theorem dX11_hasMeaning_89 : decode cX11_hasMeaning 89 = .ok (.aload_n 0, 1) := by decide +kernel
theorem dX11_hasMeaning_90 : decode cX11_hasMeaning 90 = .ok (.getfield 108, 3) := by decide +kernel
theorem dX11_hasMeaning_93 : decode cX11_hasMeaning 93 = .ok (.iload_n 1, 1) := by decide +kernel
theorem dX11_hasMeaning_94 : decode cX11_hasMeaning 94 = .ok (.iaload, 1) := by decide +kernel
theorem dX11_hasMeaning_95 : decode cX11_hasMeaning 95 = .ok (.aload_n 0, 1) := by decide +kernel
theorem dX11_hasMeaning_96 : decode cX11_hasMeaning 96 = .ok (.getfield 111, 3) := by decide +kernel
theorem dX11_hasMeaning_99 : decode cX11_hasMeaning 99 = .ok (.iload_n 1, 1) := by decide +kernel
theorem dX11_hasMeaning_100 : decode cX11_hasMeaning 100 = .ok (.iaload, 1) := by decide +kernel
theorem dX11_hasMeaning_101 : decode cX11_hasMeaning 101 = .ok (.iconst 0, 1) := by decide +kernel
theorem dX11_hasMeaning_102 : decode cX11_hasMeaning 102 = .ok (.invokevirtual 447, 3) := by decide +kernel
theorem dX11_hasMeaning_105 : decode cX11_hasMeaning 105 = .ok (.istore 5, 2) := by decide +kernel
theorem dX11_hasMeaning_107 : decode cX11_hasMeaning 107 = .ok (.iload 5, 2) := by decide +kernel
theorem dX11_hasMeaning_109 : decode cX11_hasMeaning 109 = .ok (.bipush (-2), 2) := by decide +kernel
theorem dX11_hasMeaning_111 : decode cX11_hasMeaning 111 = .ok (.if_icmp .ne 35, 3) := by decide +kernel
theorem dX11_hasMeaning_114 : decode cX11_hasMeaning 114 = .ok (.aload_n 0, 1) := by decide +kernel
theorem dX11_hasMeaning_115 : decode cX11_hasMeaning 115 = .ok (.iload 4, 2) := by decide +kernel
theorem dX11_hasMeaning_117 : decode cX11_hasMeaning 117 = .ok (.invokevirtual 467, 3) := by decide +kernel
theorem dX11_hasMeaning_120 : decode cX11_hasMeaning 120 = .ok (.istore 6, 2) := by decide +kernel
theorem dX11_hasMeaning_122 : decode cX11_hasMeaning 122 = .ok (.iload 6, 2) := by decide +kernel
theorem dX11_hasMeaning_124 : decode cX11_hasMeaning 124 = .ok (.bipush (-2), 2) := by decide +kernel
theorem dX11_hasMeaning_126 : decode cX11_hasMeaning 126 = .ok (.if_icmp .eq 18, 3) := by decide +kernel
theorem dX11_hasMeaning_129 : decode cX11_hasMeaning 129 = .ok (.aload_n 0, 1) := by decide +kernel
theorem dX11_hasMeaning_130 : decode cX11_hasMeaning 130 = .ok (.iload_n 1, 1) := by decide +kernel
theorem dX11_hasMeaning_131 : decode cX11_hasMeaning 131 = .ok (.iload_n 3, 1) := by decide +kernel
theorem dX11_hasMeaning_132 : decode cX11_hasMeaning 132 = .ok (.iload 6, 2) := by decide +kernel
theorem dX11_hasMeaning_134 : decode cX11_hasMeaning 134 = .ok (.invokevirtual 464, 3) := by decide +kernel
theorem dX11_hasMeaning_137 : decode cX11_hasMeaning 137 = .ok (.ifCond .eq 7, 3) := by decide +kernel
theorem dX11_hasMeaning_140 : decode cX11_hasMeaning 140 = .ok (.iconst 1, 1) := by decide +kernel
theorem dX11_hasMeaning_141 : decode cX11_hasMeaning 141 = .ok (.goto 4, 3) := by decide +kernel
theorem dX11_hasMeaning_144 : decode cX11_hasMeaning 144 = .ok (.iconst 0, 1) := by decide +kernel
theorem dX11_hasMeaning_145 : decode cX11_hasMeaning 145 = .ok (.ireturn, 1) := by decide +kernel
theorem dX11_hasMeaning_146 : decode cX11_hasMeaning 146 = .ok (.aload_n 0, 1) := by decide +kernel
theorem dX11_hasMeaning_147 : decode cX11_hasMeaning 147 = .ok (.getfield 159, 3) := by decide +kernel
theorem dX11_hasMeaning_150 : decode cX11_hasMeaning 150 = .ok (.iconst 4, 1) := by decide +kernel
theorem dX11_hasMeaning_151 : decode cX11_hasMeaning 151 = .ok (.iload_n 3, 1) := by decide +kernel
theorem dX11_hasMeaning_152 : decode cX11_hasMeaning 152 = .ok (.imul, 1) := by decide +kernel
theorem dX11_hasMeaning_153 : decode cX11_hasMeaning 153 = .ok (.iload 5, 2) := by decide +kernel
theorem dX11_hasMeaning_155 : decode cX11_hasMeaning 155 = .ok (.iadd, 1) := by decide +kernel
theorem dX11_hasMeaning_156 : decode cX11_hasMeaning 156 = .ok (.iaload, 1) := by decide +kernel
theorem dX11_hasMeaning_157 : decode cX11_hasMeaning 157 = .ok (.iconst 1, 1) := by decide +kernel
theorem dX11_hasMeaning_158 : decode cX11_hasMeaning 158 = .ok (.if_icmp .ne 5, 3) := by decide +kernel
theorem dX11_hasMeaning_161 : decode cX11_hasMeaning 161 = .ok (.iconst 0, 1) := by decide +kernel
theorem dX11_hasMeaning_162 : decode cX11_hasMeaning 162 = .ok (.ireturn, 1) := by decide +kernel
theorem dX11_hasMeaning_163 : decode cX11_hasMeaning 163 = .ok (.aload_n 0, 1) := by decide +kernel
theorem dX11_hasMeaning_164 : decode cX11_hasMeaning 164 = .ok (.getfield 159, 3) := by decide +kernel
theorem dX11_hasMeaning_167 : decode cX11_hasMeaning 167 = .ok (.iconst 4, 1) := by decide +kernel
theorem dX11_hasMeaning_168 : decode cX11_hasMeaning 168 = .ok (.iload_n 3, 1) := by decide +kernel
theorem dX11_hasMeaning_169 : decode cX11_hasMeaning 169 = .ok (.imul, 1) := by decide +kernel
theorem dX11_hasMeaning_170 : decode cX11_hasMeaning 170 = .ok (.iload 5, 2) := by decide +kernel
theorem dX11_hasMeaning_172 : decode cX11_hasMeaning 172 = .ok (.iadd, 1) := by decide +kernel
theorem dX11_hasMeaning_173 : decode cX11_hasMeaning 173 = .ok (.iconst 1, 1) := by decide +kernel
theorem dX11_hasMeaning_174 : decode cX11_hasMeaning 174 = .ok (.iastore, 1) := by decide +kernel
theorem dX11_hasMeaning_175 : decode cX11_hasMeaning 175 = .ok (.aload_n 0, 1) := by decide +kernel
theorem dX11_hasMeaning_176 : decode cX11_hasMeaning 176 = .ok (.getfield 22, 3) := by decide +kernel
theorem dX11_hasMeaning_179 : decode cX11_hasMeaning 179 = .ok (.iconst 4, 1) := by decide +kernel
theorem dX11_hasMeaning_180 : decode cX11_hasMeaning 180 = .ok (.iload 4, 2) := by decide +kernel
theorem dX11_hasMeaning_182 : decode cX11_hasMeaning 182 = .ok (.imul, 1) := by decide +kernel
theorem dX11_hasMeaning_183 : decode cX11_hasMeaning 183 = .ok (.iload 5, 2) := by decide +kernel
theorem dX11_hasMeaning_185 : decode cX11_hasMeaning 185 = .ok (.iadd, 1) := by decide +kernel
theorem dX11_hasMeaning_186 : decode cX11_hasMeaning 186 = .ok (.iaload, 1) := by decide +kernel
theorem dX11_hasMeaning_187 : decode cX11_hasMeaning 187 = .ok (.istore 6, 2) := by decide +kernel
theorem dX11_hasMeaning_189 : decode cX11_hasMeaning 189 = .ok (.aload_n 0, 1) := by decide +kernel
theorem dX11_hasMeaning_190 : decode cX11_hasMeaning 190 = .ok (.getfield 150, 3) := by decide +kernel
theorem dX11_hasMeaning_193 : decode cX11_hasMeaning 193 = .ok (.iload_n 1, 1) := by decide +kernel
theorem dX11_hasMeaning_194 : decode cX11_hasMeaning 194 = .ok (.iconst 4, 1) := by decide +kernel
theorem dX11_hasMeaning_195 : decode cX11_hasMeaning 195 = .ok (.bipush 60, 2) := by decide +kernel
theorem dX11_hasMeaning_197 : decode cX11_hasMeaning 197 = .ok (.iload_n 3, 1) := by decide +kernel
theorem dX11_hasMeaning_198 : decode cX11_hasMeaning 198 = .ok (.iadd, 1) := by decide +kernel
theorem dX11_hasMeaning_199 : decode cX11_hasMeaning 199 = .ok (.imul, 1) := by decide +kernel
theorem dX11_hasMeaning_200 : decode cX11_hasMeaning 200 = .ok (.iload 5, 2) := by decide +kernel
theorem dX11_hasMeaning_202 : decode cX11_hasMeaning 202 = .ok (.iadd, 1) := by decide +kernel
theorem dX11_hasMeaning_203 : decode cX11_hasMeaning 203 = .ok (.iastore, 1) := by decide +kernel
theorem dX11_hasMeaning_204 : decode cX11_hasMeaning 204 = .ok (.aload_n 0, 1) := by decide +kernel
theorem dX11_hasMeaning_205 : decode cX11_hasMeaning 205 = .ok (.getfield 153, 3) := by decide +kernel
theorem dX11_hasMeaning_208 : decode cX11_hasMeaning 208 = .ok (.iload_n 1, 1) := by decide +kernel
theorem dX11_hasMeaning_209 : decode cX11_hasMeaning 209 = .ok (.bipush (-2), 2) := by decide +kernel
theorem dX11_hasMeaning_211 : decode cX11_hasMeaning 211 = .ok (.iastore, 1) := by decide +kernel
theorem dX11_hasMeaning_212 : decode cX11_hasMeaning 212 = .ok (.iload 6, 2) := by decide +kernel
theorem dX11_hasMeaning_214 : decode cX11_hasMeaning 214 = .ok (.iconst 2, 1) := by decide +kernel
theorem dX11_hasMeaning_215 : decode cX11_hasMeaning 215 = .ok (.if_icmp .ne 46, 3) := by decide +kernel
theorem dX11_hasMeaning_218 : decode cX11_hasMeaning 218 = .ok (.aload_n 0, 1) := by decide +kernel
theorem dX11_hasMeaning_219 : decode cX11_hasMeaning 219 = .ok (.iload_n 1, 1) := by decide +kernel
theorem dX11_hasMeaning_220 : decode cX11_hasMeaning 220 = .ok (.iconst 1, 1) := by decide +kernel
theorem dX11_hasMeaning_221 : decode cX11_hasMeaning 221 = .ok (.invokevirtual 460, 3) := by decide +kernel
theorem dX11_hasMeaning_224 : decode cX11_hasMeaning 224 = .ok (.istore 7, 2) := by decide +kernel
theorem dX11_hasMeaning_226 : decode cX11_hasMeaning 226 = .ok (.aload_n 0, 1) := by decide +kernel
theorem dX11_hasMeaning_227 : decode cX11_hasMeaning 227 = .ok (.getfield 53, 3) := by decide +kernel
theorem dX11_hasMeaning_230 : decode cX11_hasMeaning 230 = .ok (.aload_n 0, 1) := by decide +kernel
theorem dX11_hasMeaning_231 : decode cX11_hasMeaning 231 = .ok (.getfield 150, 3) := by decide +kernel
theorem dX11_hasMeaning_234 : decode cX11_hasMeaning 234 = .ok (.iload_n 1, 1) := by decide +kernel
theorem dX11_hasMeaning_235 : decode cX11_hasMeaning 235 = .ok (.iaload, 1) := by decide +kernel
theorem dX11_hasMeaning_236 : decode cX11_hasMeaning 236 = .ok (.aload_n 0, 1) := by decide +kernel
theorem dX11_hasMeaning_237 : decode cX11_hasMeaning 237 = .ok (.getfield 144, 3) := by decide +kernel
theorem dX11_hasMeaning_240 : decode cX11_hasMeaning 240 = .ok (.iload_n 1, 1) := by decide +kernel
theorem dX11_hasMeaning_241 : decode cX11_hasMeaning 241 = .ok (.iaload, 1) := by decide +kernel
theorem dX11_hasMeaning_242 : decode cX11_hasMeaning 242 = .ok (.iconst 4, 1) := by decide +kernel
theorem dX11_hasMeaning_243 : decode cX11_hasMeaning 243 = .ok (.if_icmp .ne 12, 3) := by decide +kernel
theorem dX11_hasMeaning_246 : decode cX11_hasMeaning 246 = .ok (.aload_n 0, 1) := by decide +kernel
theorem dX11_hasMeaning_247 : decode cX11_hasMeaning 247 = .ok (.getfield 147, 3) := by decide +kernel
theorem dX11_hasMeaning_250 : decode cX11_hasMeaning 250 = .ok (.iload_n 1, 1) := by decide +kernel
theorem dX11_hasMeaning_251 : decode cX11_hasMeaning 251 = .ok (.iaload, 1) := by decide +kernel
theorem dX11_hasMeaning_252 : decode cX11_hasMeaning 252 = .ok (.goto 5, 3) := by decide +kernel
theorem dX11_hasMeaning_255 : decode cX11_hasMeaning 255 = .ok (.bipush (-2), 2) := by decide +kernel
theorem dX11_hasMeaning_257 : decode cX11_hasMeaning 257 = .ok (.iastore, 1) := by decide +kernel
theorem dX11_hasMeaning_258 : decode cX11_hasMeaning 258 = .ok (.iload 7, 2) := by decide +kernel
theorem dX11_hasMeaning_260 : decode cX11_hasMeaning 260 = .ok (.ireturn, 1) := by decide +kernel
theorem dX11_hasMeaning_261 : decode cX11_hasMeaning 261 = .ok (.aload_n 0, 1) := by decide +kernel
theorem dX11_hasMeaning_262 : decode cX11_hasMeaning 262 = .ok (.getfield 144, 3) := by decide +kernel
theorem dX11_hasMeaning_265 : decode cX11_hasMeaning 265 = .ok (.iload_n 1, 1) := by decide +kernel
theorem dX11_hasMeaning_266 : decode cX11_hasMeaning 266 = .ok (.iload 6, 2) := by decide +kernel
theorem dX11_hasMeaning_268 : decode cX11_hasMeaning 268 = .ok (.iastore, 1) := by decide +kernel
theorem dX11_hasMeaning_269 : decode cX11_hasMeaning 269 = .ok (.aload_n 0, 1) := by decide +kernel
theorem dX11_hasMeaning_270 : decode cX11_hasMeaning 270 = .ok (.getfield 147, 3) := by decide +kernel
theorem dX11_hasMeaning_273 : decode cX11_hasMeaning 273 = .ok (.iload_n 1, 1) := by decide +kernel
theorem dX11_hasMeaning_274 : decode cX11_hasMeaning 274 = .ok (.iload_n 3, 1) := by decide +kernel
theorem dX11_hasMeaning_275 : decode cX11_hasMeaning 275 = .ok (.iastore, 1) := by decide +kernel
theorem dX11_hasMeaning_276 : decode cX11_hasMeaning 276 = .ok (.iload 6, 2) := by decide +kernel
theorem dX11_hasMeaning_278 : decode cX11_hasMeaning 278 = .ok (.iconst 3, 1) := by decide +kernel
theorem dX11_hasMeaning_279 : decode cX11_hasMeaning 279 = .ok (.if_icmp .ne 26, 3) := by decide +kernel
theorem dX11_hasMeaning_282 : decode cX11_hasMeaning 282 = .ok (.aload_n 0, 1) := by decide +kernel
theorem dX11_hasMeaning_283 : decode cX11_hasMeaning 283 = .ok (.getfield 123, 3) := by decide +kernel
theorem dX11_hasMeaning_286 : decode cX11_hasMeaning 286 = .ok (.iload_n 1, 1) := by decide +kernel
theorem dX11_hasMeaning_287 : decode cX11_hasMeaning 287 = .ok (.iaload, 1) := by decide +kernel
theorem dX11_hasMeaning_288 : decode cX11_hasMeaning 288 = .ok (.ifCond .ne 15, 3) := by decide +kernel
theorem dX11_hasMeaning_291 : decode cX11_hasMeaning 291 = .ok (.aload_n 0, 1) := by decide +kernel
theorem dX11_hasMeaning_292 : decode cX11_hasMeaning 292 = .ok (.iload_n 1, 1) := by decide +kernel
theorem dX11_hasMeaning_293 : decode cX11_hasMeaning 293 = .ok (.invokevirtual 444, 3) := by decide +kernel
theorem dX11_hasMeaning_296 : decode cX11_hasMeaning 296 = .ok (.ifCond .eq 7, 3) := by decide +kernel
theorem dX11_hasMeaning_299 : decode cX11_hasMeaning 299 = .ok (.iconst 1, 1) := by decide +kernel
theorem dX11_hasMeaning_300 : decode cX11_hasMeaning 300 = .ok (.goto 4, 3) := by decide +kernel
theorem dX11_hasMeaning_303 : decode cX11_hasMeaning 303 = .ok (.iconst 0, 1) := by decide +kernel
theorem dX11_hasMeaning_304 : decode cX11_hasMeaning 304 = .ok (.ireturn, 1) := by decide +kernel
theorem dX11_hasMeaning_305 : decode cX11_hasMeaning 305 = .ok (.aload_n 0, 1) := by decide +kernel
theorem dX11_hasMeaning_306 : decode cX11_hasMeaning 306 = .ok (.getfield 123, 3) := by decide +kernel
theorem dX11_hasMeaning_309 : decode cX11_hasMeaning 309 = .ok (.iload_n 1, 1) := by decide +kernel
theorem dX11_hasMeaning_310 : decode cX11_hasMeaning 310 = .ok (.iaload, 1) := by decide +kernel
theorem dX11_hasMeaning_311 : decode cX11_hasMeaning 311 = .ok (.ifCond .gt 11, 3) := by decide +kernel
theorem dX11_hasMeaning_314 : decode cX11_hasMeaning 314 = .ok (.aload_n 0, 1) := by decide +kernel
theorem dX11_hasMeaning_315 : decode cX11_hasMeaning 315 = .ok (.iload_n 1, 1) := by decide +kernel
theorem dX11_hasMeaning_316 : decode cX11_hasMeaning 316 = .ok (.invokevirtual 432, 3) := by decide +kernel
theorem dX11_hasMeaning_319 : decode cX11_hasMeaning 319 = .ok (.ifCond .eq 5, 3) := by decide +kernel
theorem dX11_hasMeaning_322 : decode cX11_hasMeaning 322 = .ok (.iconst 0, 1) := by decide +kernel
theorem dX11_hasMeaning_323 : decode cX11_hasMeaning 323 = .ok (.ireturn, 1) := by decide +kernel
theorem dX11_hasMeaning_324 : decode cX11_hasMeaning 324 = .ok (.aload_n 0, 1) := by decide +kernel
theorem dX11_hasMeaning_325 : decode cX11_hasMeaning 325 = .ok (.iload_n 1, 1) := by decide +kernel
theorem dX11_hasMeaning_326 : decode cX11_hasMeaning 326 = .ok (.invokevirtual 470, 3) := by decide +kernel
theorem dX11_hasMeaning_329 : decode cX11_hasMeaning 329 = .ok (.aload_n 0, 1) := by decide +kernel
theorem dX11_hasMeaning_330 : decode cX11_hasMeaning 330 = .ok (.iload_n 3, 1) := by decide +kernel
theorem dX11_hasMeaning_331 : decode cX11_hasMeaning 331 = .ok (.iload 5, 2) := by decide +kernel
theorem dX11_hasMeaning_333 : decode cX11_hasMeaning 333 = .ok (.invokevirtual 454, 3) := by decide +kernel
theorem dX11_hasMeaning_336 : decode cX11_hasMeaning 336 = .ok (.ireturn, 1) := by decide +kernel
theorem dX11_childAt_0 : decode cX11_childAt 0 = .ok (.bipush (-2), 2) := by decide +kernel
theorem dX11_childAt_2 : decode cX11_childAt 2 = .ok (.istore 5, 2) := by decide +kernel
theorem dX11_childAt_4 : decode cX11_childAt 4 = .ok (.iconst 0, 1) := by decide +kernel
theorem dX11_childAt_5 : decode cX11_childAt 5 = .ok (.istore 6, 2) := by decide +kernel
theorem dX11_childAt_7 : decode cX11_childAt 7 = .ok (.iload 6, 2) := by decide +kernel

