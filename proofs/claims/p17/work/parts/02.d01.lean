theorem dX3_fills_30 : decode cX3_fills 30 = .ok (.aload_n 0, 1) := by decide +kernel
theorem dX3_fills_31 : decode cX3_fills 31 = .ok (.getfield 35, 3) := by decide +kernel
theorem dX3_fills_34 : decode cX3_fills 34 = .ok (.iload_n 3, 1) := by decide +kernel
theorem dX3_fills_35 : decode cX3_fills 35 = .ok (.iload 4, 2) := by decide +kernel
theorem dX3_fills_37 : decode cX3_fills 37 = .ok (.invokestatic 220, 3) := by decide +kernel
theorem dX3_fills_40 : decode cX3_fills 40 = .ok (.ifCond .ne 5, 3) := by decide +kernel
theorem dX3_fills_43 : decode cX3_fills 43 = .ok (.iconst 0, 1) := by decide +kernel
theorem dX3_fills_44 : decode cX3_fills 44 = .ok (.ireturn, 1) := by decide +kernel
theorem dX3_fills_45 : decode cX3_fills 45 = .ok (.aload_n 0, 1) := by decide +kernel
theorem dX3_fills_46 : decode cX3_fills 46 = .ok (.getfield 37, 3) := by decide +kernel
theorem dX3_fills_49 : decode cX3_fills 49 = .ok (.iload_n 1, 1) := by decide +kernel
theorem dX3_fills_50 : decode cX3_fills 50 = .ok (.iload_n 2, 1) := by decide +kernel
theorem dX3_fills_51 : decode cX3_fills 51 = .ok (.aload_n 0, 1) := by decide +kernel
theorem dX3_fills_52 : decode cX3_fills 52 = .ok (.getfield 35, 3) := by decide +kernel
theorem dX3_fills_55 : decode cX3_fills 55 = .ok (.iload_n 3, 1) := by decide +kernel
theorem dX3_fills_56 : decode cX3_fills 56 = .ok (.iload 4, 2) := by decide +kernel
theorem dX3_fills_58 : decode cX3_fills 58 = .ok (.invokevirtual 224, 3) := by decide +kernel
theorem dX3_fills_61 : decode cX3_fills 61 = .ok (.iconst 1, 1) := by decide +kernel
theorem dX3_fills_62 : decode cX3_fills 62 = .ok (.ireturn, 1) := by decide +kernel
theorem dX3_fillsNumber_0 : decode cX3_fillsNumber 0 = .ok (.aload_n 0, 1) := by decide +kernel
theorem dX3_fillsNumber_1 : decode cX3_fillsNumber 1 = .ok (.getfield 35, 3) := by decide +kernel
theorem dX3_fillsNumber_4 : decode cX3_fillsNumber 4 = .ok (.iload_n 3, 1) := by decide +kernel
theorem dX3_fillsNumber_5 : decode cX3_fillsNumber 5 = .ok (.invokevirtual 211, 3) := by decide +kernel
theorem dX3_fillsNumber_8 : decode cX3_fillsNumber 8 = .ok (.bipush 45, 2) := by decide +kernel
theorem dX3_fillsNumber_10 : decode cX3_fillsNumber 10 = .ok (.if_icmp .ne 7, 3) := by decide +kernel
theorem dX3_fillsNumber_13 : decode cX3_fillsNumber 13 = .ok (.iconst 1, 1) := by decide +kernel
theorem dX3_fillsNumber_14 : decode cX3_fillsNumber 14 = .ok (.goto 4, 3) := by decide +kernel
theorem dX3_fillsNumber_17 : decode cX3_fillsNumber 17 = .ok (.iconst 0, 1) := by decide +kernel
theorem dX3_fillsNumber_18 : decode cX3_fillsNumber 18 = .ok (.istore 5, 2) := by decide +kernel
theorem dX3_fillsNumber_20 : decode cX3_fillsNumber 20 = .ok (.iload 5, 2) := by decide +kernel
theorem dX3_fillsNumber_22 : decode cX3_fillsNumber 22 = .ok (.ifCond .eq 9, 3) := by decide +kernel
theorem dX3_fillsNumber_25 : decode cX3_fillsNumber 25 = .ok (.iload_n 3, 1) := by decide +kernel
theorem dX3_fillsNumber_26 : decode cX3_fillsNumber 26 = .ok (.iconst 1, 1) := by decide +kernel
theorem dX3_fillsNumber_27 : decode cX3_fillsNumber 27 = .ok (.iadd, 1) := by decide +kernel
theorem dX3_fillsNumber_28 : decode cX3_fillsNumber 28 = .ok (.goto 4, 3) := by decide +kernel
theorem dX3_fillsNumber_31 : decode cX3_fillsNumber 31 = .ok (.iload_n 3, 1) := by decide +kernel
theorem dX3_fillsNumber_32 : decode cX3_fillsNumber 32 = .ok (.istore 6, 2) := by decide +kernel
theorem dX3_fillsNumber_34 : decode cX3_fillsNumber 34 = .ok (.iload 4, 2) := by decide +kernel
theorem dX3_fillsNumber_36 : decode cX3_fillsNumber 36 = .ok (.iload 6, 2) := by decide +kernel
theorem dX3_fillsNumber_38 : decode cX3_fillsNumber 38 = .ok (.isub, 1) := by decide +kernel
theorem dX3_fillsNumber_39 : decode cX3_fillsNumber 39 = .ok (.iconst 1, 1) := by decide +kernel
theorem dX3_fillsNumber_40 : decode cX3_fillsNumber 40 = .ok (.if_icmp .lt 13, 3) := by decide +kernel
theorem dX3_fillsNumber_43 : decode cX3_fillsNumber 43 = .ok (.iload 4, 2) := by decide +kernel
theorem dX3_fillsNumber_45 : decode cX3_fillsNumber 45 = .ok (.iload 6, 2) := by decide +kernel
theorem dX3_fillsNumber_47 : decode cX3_fillsNumber 47 = .ok (.isub, 1) := by decide +kernel
theorem dX3_fillsNumber_48 : decode cX3_fillsNumber 48 = .ok (.bipush 10, 2) := by decide +kernel
theorem dX3_fillsNumber_50 : decode cX3_fillsNumber 50 = .ok (.if_icmp .le 5, 3) := by decide +kernel
theorem dX3_fillsNumber_53 : decode cX3_fillsNumber 53 = .ok (.iconst 0, 1) := by decide +kernel
theorem dX3_fillsNumber_54 : decode cX3_fillsNumber 54 = .ok (.ireturn, 1) := by decide +kernel
theorem dX3_fillsNumber_55 : decode cX3_fillsNumber 55 = .ok (.lconst 0, 1) := by decide +kernel
theorem dX3_fillsNumber_56 : decode cX3_fillsNumber 56 = .ok (.lstore 7, 2) := by decide +kernel
theorem dX3_fillsNumber_58 : decode cX3_fillsNumber 58 = .ok (.iload 6, 2) := by decide +kernel
theorem dX3_fillsNumber_60 : decode cX3_fillsNumber 60 = .ok (.istore 9, 2) := by decide +kernel
theorem dX3_fillsNumber_62 : decode cX3_fillsNumber 62 = .ok (.iload 9, 2) := by decide +kernel
theorem dX3_fillsNumber_64 : decode cX3_fillsNumber 64 = .ok (.iload 4, 2) := by decide +kernel
theorem dX3_fillsNumber_66 : decode cX3_fillsNumber 66 = .ok (.if_icmp .ge 49, 3) := by decide +kernel
theorem dX3_fillsNumber_69 : decode cX3_fillsNumber 69 = .ok (.aload_n 0, 1) := by decide +kernel
theorem dX3_fillsNumber_70 : decode cX3_fillsNumber 70 = .ok (.getfield 35, 3) := by decide +kernel
theorem dX3_fillsNumber_73 : decode cX3_fillsNumber 73 = .ok (.iload 9, 2) := by decide +kernel
theorem dX3_fillsNumber_75 : decode cX3_fillsNumber 75 = .ok (.invokevirtual 211, 3) := by decide +kernel
theorem dX3_fillsNumber_78 : decode cX3_fillsNumber 78 = .ok (.invokestatic 214, 3) := by decide +kernel
theorem dX3_fillsNumber_81 : decode cX3_fillsNumber 81 = .ok (.ifCond .ne 5, 3) := by decide +kernel
theorem dX3_fillsNumber_84 : decode cX3_fillsNumber 84 = .ok (.iconst 0, 1) := by decide +kernel
theorem dX3_fillsNumber_85 : decode cX3_fillsNumber 85 = .ok (.ireturn, 1) := by decide +kernel
theorem dX3_fillsNumber_86 : decode cX3_fillsNumber 86 = .ok (.lload 7, 2) := by decide +kernel
theorem dX3_fillsNumber_88 : decode cX3_fillsNumber 88 = .ok (.ldc2_w 228, 3) := by decide +kernel
theorem dX3_fillsNumber_91 : decode cX3_fillsNumber 91 = .ok (.lmul, 1) := by decide +kernel
theorem dX3_fillsNumber_92 : decode cX3_fillsNumber 92 = .ok (.aload_n 0, 1) := by decide +kernel
theorem dX3_fillsNumber_93 : decode cX3_fillsNumber 93 = .ok (.getfield 35, 3) := by decide +kernel
theorem dX3_fillsNumber_96 : decode cX3_fillsNumber 96 = .ok (.iload 9, 2) := by decide +kernel
theorem dX3_fillsNumber_98 : decode cX3_fillsNumber 98 = .ok (.invokevirtual 211, 3) := by decide +kernel
theorem dX3_fillsNumber_101 : decode cX3_fillsNumber 101 = .ok (.i2l, 1) := by decide +kernel
theorem dX3_fillsNumber_102 : decode cX3_fillsNumber 102 = .ok (.ladd, 1) := by decide +kernel
theorem dX3_fillsNumber_103 : decode cX3_fillsNumber 103 = .ok (.ldc2_w 230, 3) := by decide +kernel
theorem dX3_fillsNumber_106 : decode cX3_fillsNumber 106 = .ok (.lsub, 1) := by decide +kernel
theorem dX3_fillsNumber_107 : decode cX3_fillsNumber 107 = .ok (.lstore 7, 2) := by decide +kernel
theorem dX3_fillsNumber_109 : decode cX3_fillsNumber 109 = .ok (.iinc 9 1, 3) := by decide +kernel
theorem dX3_fillsNumber_112 : decode cX3_fillsNumber 112 = .ok (.goto (-50), 3) := by decide +kernel
theorem dX3_fillsNumber_115 : decode cX3_fillsNumber 115 = .ok (.iload 5, 2) := by decide +kernel
theorem dX3_fillsNumber_117 : decode cX3_fillsNumber 117 = .ok (.ifCond .eq 9, 3) := by decide +kernel
theorem dX3_fillsNumber_120 : decode cX3_fillsNumber 120 = .ok (.lload 7, 2) := by decide +kernel
theorem dX3_fillsNumber_122 : decode cX3_fillsNumber 122 = .ok (.lneg, 1) := by decide +kernel
theorem dX3_fillsNumber_123 : decode cX3_fillsNumber 123 = .ok (.goto 5, 3) := by decide +kernel
theorem dX3_fillsNumber_126 : decode cX3_fillsNumber 126 = .ok (.lload 7, 2) := by decide +kernel
theorem dX3_fillsNumber_128 : decode cX3_fillsNumber 128 = .ok (.lstore 7, 2) := by decide +kernel
theorem dX3_fillsNumber_130 : decode cX3_fillsNumber 130 = .ok (.lload 7, 2) := by decide +kernel
theorem dX3_fillsNumber_132 : decode cX3_fillsNumber 132 = .ok (.lload 7, 2) := by decide +kernel
theorem dX3_fillsNumber_134 : decode cX3_fillsNumber 134 = .ok (.l2i, 1) := by decide +kernel
theorem dX3_fillsNumber_135 : decode cX3_fillsNumber 135 = .ok (.i2l, 1) := by decide +kernel
theorem dX3_fillsNumber_136 : decode cX3_fillsNumber 136 = .ok (.lcmp, 1) := by decide +kernel
theorem dX3_fillsNumber_137 : decode cX3_fillsNumber 137 = .ok (.ifCond .eq 5, 3) := by decide +kernel
theorem dX3_fillsNumber_140 : decode cX3_fillsNumber 140 = .ok (.iconst 0, 1) := by decide +kernel
theorem dX3_fillsNumber_141 : decode cX3_fillsNumber 141 = .ok (.ireturn, 1) := by decide +kernel
theorem dX3_fillsNumber_142 : decode cX3_fillsNumber 142 = .ok (.aload_n 0, 1) := by decide +kernel
theorem dX3_fillsNumber_143 : decode cX3_fillsNumber 143 = .ok (.getfield 37, 3) := by decide +kernel
theorem dX3_fillsNumber_146 : decode cX3_fillsNumber 146 = .ok (.iload_n 1, 1) := by decide +kernel
theorem dX3_fillsNumber_147 : decode cX3_fillsNumber 147 = .ok (.iload_n 2, 1) := by decide +kernel
theorem dX3_fillsNumber_148 : decode cX3_fillsNumber 148 = .ok (.lload 7, 2) := by decide +kernel
theorem dX3_fillsNumber_150 : decode cX3_fillsNumber 150 = .ok (.l2i, 1) := by decide +kernel
theorem dX3_fillsNumber_151 : decode cX3_fillsNumber 151 = .ok (.invokevirtual 152, 3) := by decide +kernel
theorem dX3_fillsNumber_154 : decode cX3_fillsNumber 154 = .ok (.iconst 1, 1) := by decide +kernel
theorem dX3_fillsNumber_155 : decode cX3_fillsNumber 155 = .ok (.ireturn, 1) := by decide +kernel
theorem dX3_leads_0 : decode cX3_leads 0 = .ok (.aload_n 0, 1) := by decide +kernel
theorem dX3_leads_1 : decode cX3_leads 1 = .ok (.getfield 19, 3) := by decide +kernel
theorem dX3_leads_4 : decode cX3_leads 4 = .ok (.iload_n 1, 1) := by decide +kernel
theorem dX3_leads_5 : decode cX3_leads 5 = .ok (.invokevirtual 169, 3) := by decide +kernel
theorem dX3_leads_8 : decode cX3_leads 8 = .ok (.iconst 1, 1) := by decide +kernel
theorem dX3_leads_9 : decode cX3_leads 9 = .ok (.if_icmp .ne 33, 3) := by decide +kernel
theorem dX3_leads_12 : decode cX3_leads 12 = .ok (.aload_n 0, 1) := by decide +kernel
theorem dX3_leads_13 : decode cX3_leads 13 = .ok (.getfield 19, 3) := by decide +kernel
theorem dX3_leads_16 : decode cX3_leads 16 = .ok (.iload_n 1, 1) := by decide +kernel
theorem dX3_leads_17 : decode cX3_leads 17 = .ok (.invokevirtual 172, 3) := by decide +kernel
theorem dX3_leads_20 : decode cX3_leads 20 = .ok (.ifCond .gt 22, 3) := by decide +kernel
theorem dX3_leads_23 : decode cX3_leads 23 = .ok (.aload_n 0, 1) := by decide +kernel
theorem dX3_leads_24 : decode cX3_leads 24 = .ok (.getfield 19, 3) := by decide +kernel
theorem dX3_leads_27 : decode cX3_leads 27 = .ok (.iload_n 1, 1) := by decide +kernel
theorem dX3_leads_28 : decode cX3_leads 28 = .ok (.invokevirtual 178, 3) := by decide +kernel
theorem dX3_leads_31 : decode cX3_leads 31 = .ok (.aload_n 0, 1) := by decide +kernel
theorem dX3_leads_32 : decode cX3_leads 32 = .ok (.getfield 19, 3) := by decide +kernel
theorem dX3_leads_35 : decode cX3_leads 35 = .ok (.iload_n 1, 1) := by decide +kernel
theorem dX3_leads_36 : decode cX3_leads 36 = .ok (.invokevirtual 175, 3) := by decide +kernel
theorem dX3_leads_39 : decode cX3_leads 39 = .ok (.if_icmp .le 5, 3) := by decide +kernel
theorem dX3_leads_42 : decode cX3_leads 42 = .ok (.iconst 0, 1) := by decide +kernel
theorem dX3_leads_43 : decode cX3_leads 43 = .ok (.ireturn, 1) := by decide +kernel
theorem dX3_leads_44 : decode cX3_leads 44 = .ok (.aload_n 0, 1) := by decide +kernel
theorem dX3_leads_45 : decode cX3_leads 45 = .ok (.getfield 19, 3) := by decide +kernel
theorem dX3_leads_48 : decode cX3_leads 48 = .ok (.aload_n 0, 1) := by decide +kernel
theorem dX3_leads_49 : decode cX3_leads 49 = .ok (.getfield 19, 3) := by decide +kernel
theorem dX3_leads_52 : decode cX3_leads 52 = .ok (.iload_n 1, 1) := by decide +kernel
theorem dX3_leads_53 : decode cX3_leads 53 = .ok (.invokevirtual 185, 3) := by decide +kernel
theorem dX3_leads_56 : decode cX3_leads 56 = .ok (.invokevirtual 146, 3) := by decide +kernel
theorem dX3_leads_59 : decode cX3_leads 59 = .ok (.istore_n 2, 1) := by decide +kernel
theorem dX3_leads_60 : decode cX3_leads 60 = .ok (.aload_n 0, 1) := by decide +kernel
theorem dX3_leads_61 : decode cX3_leads 61 = .ok (.getfield 19, 3) := by decide +kernel
theorem dX3_leads_64 : decode cX3_leads 64 = .ok (.aload_n 0, 1) := by decide +kernel
theorem dX3_leads_65 : decode cX3_leads 65 = .ok (.getfield 19, 3) := by decide +kernel
theorem dX3_leads_68 : decode cX3_leads 68 = .ok (.iload_n 1, 1) := by decide +kernel
theorem dX3_leads_69 : decode cX3_leads 69 = .ok (.invokevirtual 185, 3) := by decide +kernel
theorem dX3_leads_72 : decode cX3_leads 72 = .ok (.invokevirtual 149, 3) := by decide +kernel
theorem dX3_leads_75 : decode cX3_leads 75 = .ok (.istore_n 3, 1) := by decide +kernel
theorem dX3_leads_76 : decode cX3_leads 76 = .ok (.iload_n 2, 1) := by decide +kernel
theorem dX3_leads_77 : decode cX3_leads 77 = .ok (.iload_n 3, 1) := by decide +kernel
theorem dX3_leads_78 : decode cX3_leads 78 = .ok (.if_icmp .ge 21, 3) := by decide +kernel
theorem dX3_leads_81 : decode cX3_leads 81 = .ok (.aload_n 0, 1) := by decide +kernel
theorem dX3_leads_82 : decode cX3_leads 82 = .ok (.getfield 35, 3) := by decide +kernel
theorem dX3_leads_85 : decode cX3_leads 85 = .ok (.iload_n 2, 1) := by decide +kernel
theorem dX3_leads_86 : decode cX3_leads 86 = .ok (.invokevirtual 211, 3) := by decide +kernel
theorem dX3_leads_89 : decode cX3_leads 89 = .ok (.invokestatic 214, 3) := by decide +kernel
theorem dX3_leads_92 : decode cX3_leads 92 = .ok (.ifCond .eq 7, 3) := by decide +kernel
theorem dX3_leads_95 : decode cX3_leads 95 = .ok (.iconst 1, 1) := by decide +kernel
theorem dX3_leads_96 : decode cX3_leads 96 = .ok (.goto 4, 3) := by decide +kernel
theorem dX3_leads_99 : decode cX3_leads 99 = .ok (.iconst 0, 1) := by decide +kernel
theorem dX3_leads_100 : decode cX3_leads 100 = .ok (.istore 4, 2) := by decide +kernel
theorem dX3_leads_102 : decode cX3_leads 102 = .ok (.iload 4, 2) := by decide +kernel
theorem dX3_leads_104 : decode cX3_leads 104 = .ok (.ifCond .eq 16, 3) := by decide +kernel
theorem dX3_leads_107 : decode cX3_leads 107 = .ok (.aload_n 0, 1) := by decide +kernel
theorem dX3_leads_108 : decode cX3_leads 108 = .ok (.aload_n 0, 1) := by decide +kernel
theorem dX3_leads_109 : decode cX3_leads 109 = .ok (.iload_n 2, 1) := by decide +kernel
theorem dX3_leads_110 : decode cX3_leads 110 = .ok (.iload_n 3, 1) := by decide +kernel
theorem dX3_leads_111 : decode cX3_leads 111 = .ok (.invokevirtual 205, 3) := by decide +kernel
theorem dX3_leads_114 : decode cX3_leads 114 = .ok (.invokevirtual 208, 3) := by decide +kernel
theorem dX3_leads_117 : decode cX3_leads 117 = .ok (.goto 13, 3) := by decide +kernel
theorem dX3_leads_120 : decode cX3_leads 120 = .ok (.aload_n 0, 1) := by decide +kernel
theorem dX3_leads_121 : decode cX3_leads 121 = .ok (.getfield 46, 3) := by decide +kernel
theorem dX3_leads_124 : decode cX3_leads 124 = .ok (.iload_n 1, 1) := by decide +kernel
theorem dX3_leads_125 : decode cX3_leads 125 = .ok (.iload_n 2, 1) := by decide +kernel
theorem dX3_leads_126 : decode cX3_leads 126 = .ok (.iload_n 3, 1) := by decide +kernel
theorem dX3_leads_127 : decode cX3_leads 127 = .ok (.invokevirtual 232, 3) := by decide +kernel
theorem dX3_leads_130 : decode cX3_leads 130 = .ok (.istore 5, 2) := by decide +kernel
theorem dX3_leads_132 : decode cX3_leads 132 = .ok (.iload 5, 2) := by decide +kernel
theorem dX3_leads_134 : decode cX3_leads 134 = .ok (.ifCond .lt 20, 3) := by decide +kernel
theorem dX3_leads_137 : decode cX3_leads 137 = .ok (.iload 5, 2) := by decide +kernel
theorem dX3_leads_139 : decode cX3_leads 139 = .ok (.iload_n 1, 1) := by decide +kernel
theorem dX3_leads_140 : decode cX3_leads 140 = .ok (.if_icmp .ge 14, 3) := by decide +kernel
theorem dX3_leads_143 : decode cX3_leads 143 = .ok (.aload_n 0, 1) := by decide +kernel
theorem dX3_leads_144 : decode cX3_leads 144 = .ok (.getfield 54, 3) := by decide +kernel
theorem dX3_leads_147 : decode cX3_leads 147 = .ok (.iload 5, 2) := by decide +kernel
theorem dX3_leads_149 : decode cX3_leads 149 = .ok (.iaload, 1) := by decide +kernel
theorem dX3_leads_150 : decode cX3_leads 150 = .ok (.iconst 1, 1) := by decide +kernel
theorem dX3_leads_151 : decode cX3_leads 151 = .ok (.if_icmp .eq 5, 3) := by decide +kernel
theorem dX3_leads_154 : decode cX3_leads 154 = .ok (.iconst 0, 1) := by decide +kernel
theorem dX3_leads_155 : decode cX3_leads 155 = .ok (.ireturn, 1) := by decide +kernel
theorem dX3_leads_156 : decode cX3_leads 156 = .ok (.aload_n 0, 1) := by decide +kernel
theorem dX3_leads_157 : decode cX3_leads 157 = .ok (.getfield 63, 3) := by decide +kernel
theorem dX3_leads_160 : decode cX3_leads 160 = .ok (.iload_n 1, 1) := by decide +kernel
theorem dX3_leads_161 : decode cX3_leads 161 = .ok (.iaload, 1) := by decide +kernel
theorem dX3_leads_162 : decode cX3_leads 162 = .ok (.iconst (-1), 1) := by decide +kernel
theorem dX3_leads_163 : decode cX3_leads 163 = .ok (.if_icmp .ne 31, 3) := by decide +kernel
theorem dX3_leads_166 : decode cX3_leads 166 = .ok (.aload_n 0, 1) := by decide +kernel
theorem dX3_leads_167 : decode cX3_leads 167 = .ok (.getfield 37, 3) := by decide +kernel
theorem dX3_leads_170 : decode cX3_leads 170 = .ok (.aload_n 0, 1) := by decide +kernel
theorem dX3_leads_171 : decode cX3_leads 171 = .ok (.getfield 57, 3) := by decide +kernel
theorem dX3_leads_174 : decode cX3_leads 174 = .ok (.iload_n 1, 1) := by decide +kernel
theorem dX3_leads_175 : decode cX3_leads 175 = .ok (.iaload, 1) := by decide +kernel
theorem dX3_leads_176 : decode cX3_leads 176 = .ok (.aload_n 0, 1) := by decide +kernel
theorem dX3_leads_177 : decode cX3_leads 177 = .ok (.getfield 60, 3) := by decide +kernel
theorem dX3_leads_180 : decode cX3_leads 180 = .ok (.iload_n 1, 1) := by decide +kernel
theorem dX3_leads_181 : decode cX3_leads 181 = .ok (.iaload, 1) := by decide +kernel
theorem dX3_leads_182 : decode cX3_leads 182 = .ok (.aload_n 0, 1) := by decide +kernel
theorem dX3_leads_183 : decode cX3_leads 183 = .ok (.getfield 57, 3) := by decide +kernel
theorem dX3_leads_186 : decode cX3_leads 186 = .ok (.iload 5, 2) := by decide +kernel
theorem dX3_leads_188 : decode cX3_leads 188 = .ok (.iaload, 1) := by decide +kernel
theorem dX3_leads_189 : decode cX3_leads 189 = .ok (.invokevirtual 152, 3) := by decide +kernel
theorem dX3_leads_192 : decode cX3_leads 192 = .ok (.iconst 1, 1) := by decide +kernel
theorem dX3_leads_193 : decode cX3_leads 193 = .ok (.ireturn, 1) := by decide +kernel
theorem dX3_leads_194 : decode cX3_leads 194 = .ok (.aload_n 0, 1) := by decide +kernel
theorem dX3_leads_195 : decode cX3_leads 195 = .ok (.getfield 37, 3) := by decide +kernel
theorem dX3_leads_198 : decode cX3_leads 198 = .ok (.aload_n 0, 1) := by decide +kernel
theorem dX3_leads_199 : decode cX3_leads 199 = .ok (.getfield 57, 3) := by decide +kernel
theorem dX3_leads_202 : decode cX3_leads 202 = .ok (.iload_n 1, 1) := by decide +kernel
theorem dX3_leads_203 : decode cX3_leads 203 = .ok (.iaload, 1) := by decide +kernel
theorem dX3_leads_204 : decode cX3_leads 204 = .ok (.aload_n 0, 1) := by decide +kernel
theorem dX3_leads_205 : decode cX3_leads 205 = .ok (.getfield 60, 3) := by decide +kernel
theorem dX3_leads_208 : decode cX3_leads 208 = .ok (.iload_n 1, 1) := by decide +kernel
theorem dX3_leads_209 : decode cX3_leads 209 = .ok (.iaload, 1) := by decide +kernel
theorem dX3_leads_210 : decode cX3_leads 210 = .ok (.aload_n 0, 1) := by decide +kernel
theorem dX3_leads_211 : decode cX3_leads 211 = .ok (.getfield 63, 3) := by decide +kernel
theorem dX3_leads_214 : decode cX3_leads 214 = .ok (.iload_n 1, 1) := by decide +kernel
theorem dX3_leads_215 : decode cX3_leads 215 = .ok (.iaload, 1) := by decide +kernel
theorem dX3_leads_216 : decode cX3_leads 216 = .ok (.aload_n 0, 1) := by decide +kernel
theorem dX3_leads_217 : decode cX3_leads 217 = .ok (.getfield 57, 3) := by decide +kernel
theorem dX3_leads_220 : decode cX3_leads 220 = .ok (.iload 5, 2) := by decide +kernel
theorem dX3_leads_222 : decode cX3_leads 222 = .ok (.iaload, 1) := by decide +kernel
theorem dX3_leads_223 : decode cX3_leads 223 = .ok (.invokevirtual 160, 3) := by decide +kernel
theorem dX3_leads_226 : decode cX3_leads 226 = .ok (.aload_n 0, 1) := by decide +kernel
theorem dX3_leads_227 : decode cX3_leads 227 = .ok (.getfield 15, 3) := by decide +kernel
theorem dX3_leads_230 : decode cX3_leads 230 = .ok (.aload_n 0, 1) := by decide +kernel
theorem dX3_leads_231 : decode cX3_leads 231 = .ok (.getfield 37, 3) := by decide +kernel
theorem dX3_leads_234 : decode cX3_leads 234 = .ok (.aload_n 0, 1) := by decide +kernel
theorem dX3_leads_235 : decode cX3_leads 235 = .ok (.getfield 57, 3) := by decide +kernel
theorem dX3_leads_238 : decode cX3_leads 238 = .ok (.iload 5, 2) := by decide +kernel
theorem dX3_leads_240 : decode cX3_leads 240 = .ok (.iaload, 1) := by decide +kernel
theorem dX3_leads_241 : decode cX3_leads 241 = .ok (.invokevirtual 122, 3) := by decide +kernel
theorem dX3_leads_244 : decode cX3_leads 244 = .ok (.aload_n 0, 1) := by decide +kernel
theorem dX3_leads_245 : decode cX3_leads 245 = .ok (.getfield 29, 3) := by decide +kernel
theorem dX3_leads_248 : decode cX3_leads 248 = .ok (.aload_n 0, 1) := by decide +kernel
theorem dX3_leads_249 : decode cX3_leads 249 = .ok (.getfield 19, 3) := by decide +kernel
theorem dX3_leads_252 : decode cX3_leads 252 = .ok (.iload_n 1, 1) := by decide +kernel
theorem dX3_leads_253 : decode cX3_leads 253 = .ok (.invokevirtual 88, 3) := by decide +kernel
theorem dX3_leads_256 : decode cX3_leads 256 = .ok (.aload_n 0, 1) := by decide +kernel
theorem dX3_leads_257 : decode cX3_leads 257 = .ok (.getfield 19, 3) := by decide +kernel
theorem dX3_leads_260 : decode cX3_leads 260 = .ok (.iload_n 1, 1) := by decide +kernel
theorem dX3_leads_261 : decode cX3_leads 261 = .ok (.invokevirtual 91, 3) := by decide +kernel
theorem dX3_leads_264 : decode cX3_leads 264 = .ok (.invokevirtual 235, 3) := by decide +kernel
theorem dX3_leads_267 : decode cX3_leads 267 = .ok (.ireturn, 1) := by decide +kernel
theorem dX4_init_0 : decode cX4_init 0 = .ok (.aload_n 0, 1) := by decide +kernel
theorem dX4_init_1 : decode cX4_init 1 = .ok (.invokespecial 3, 3) := by decide +kernel
theorem dX4_init_4 : decode cX4_init 4 = .ok (.aload_n 0, 1) := by decide +kernel
theorem dX4_init_5 : decode cX4_init 5 = .ok (.sipush 480, 3) := by decide +kernel
theorem dX4_init_8 : decode cX4_init 8 = .ok (.newarray .char, 2) := by decide +kernel
theorem dX4_init_10 : decode cX4_init 10 = .ok (.putfield 11, 3) := by decide +kernel
theorem dX4_init_13 : decode cX4_init 13 = .ok (.aload_n 0, 1) := by decide +kernel
theorem dX4_init_14 : decode cX4_init 14 = .ok (.bipush 30, 2) := by decide +kernel
theorem dX4_init_16 : decode cX4_init 16 = .ok (.newarray .int, 2) := by decide +kernel
theorem dX4_init_18 : decode cX4_init 18 = .ok (.putfield 15, 3) := by decide +kernel
theorem dX4_init_21 : decode cX4_init 21 = .ok (.aload_n 0, 1) := by decide +kernel
theorem dX4_init_22 : decode cX4_init 22 = .ok (.bipush 24, 2) := by decide +kernel
theorem dX4_init_24 : decode cX4_init 24 = .ok (.newarray .int, 2) := by decide +kernel
theorem dX4_init_26 : decode cX4_init 26 = .ok (.putfield 19, 3) := by decide +kernel
theorem dX4_init_29 : decode cX4_init 29 = .ok (.aload_n 0, 1) := by decide +kernel
theorem dX4_init_30 : decode cX4_init 30 = .ok (.bipush 24, 2) := by decide +kernel
theorem dX4_init_32 : decode cX4_init 32 = .ok (.newarray .boolean, 2) := by decide +kernel
theorem dX4_init_34 : decode cX4_init 34 = .ok (.putfield 22, 3) := by decide +kernel
theorem dX4_init_37 : decode cX4_init 37 = .ok (.aload_n 0, 1) := by decide +kernel
theorem dX4_init_38 : decode cX4_init 38 = .ok (.bipush 6, 2) := by decide +kernel
theorem dX4_init_40 : decode cX4_init 40 = .ok (.newarray .int, 2) := by decide +kernel
theorem dX4_init_42 : decode cX4_init 42 = .ok (.putfield 26, 3) := by decide +kernel
theorem dX4_init_45 : decode cX4_init 45 = .ok (.aload_n 0, 1) := by decide +kernel
theorem dX4_init_46 : decode cX4_init 46 = .ok (.bipush 6, 2) := by decide +kernel
theorem dX4_init_48 : decode cX4_init 48 = .ok (.newarray .int, 2) := by decide +kernel
theorem dX4_init_50 : decode cX4_init 50 = .ok (.putfield 29, 3) := by decide +kernel
theorem dX4_init_53 : decode cX4_init 53 = .ok (.aload_n 0, 1) := by decide +kernel
theorem dX4_init_54 : decode cX4_init 54 = .ok (.bipush 6, 2) := by decide +kernel
theorem dX4_init_56 : decode cX4_init 56 = .ok (.newarray .int, 2) := by decide +kernel
theorem dX4_init_58 : decode cX4_init 58 = .ok (.putfield 32, 3) := by decide +kernel
theorem dX4_init_61 : decode cX4_init 61 = .ok (.aload_n 0, 1) := by decide +kernel
theorem dX4_init_62 : decode cX4_init 62 = .ok (.bipush 6, 2) := by decide +kernel
theorem dX4_init_64 : decode cX4_init 64 = .ok (.newarray .boolean, 2) := by decide +kernel
theorem dX4_init_66 : decode cX4_init 66 = .ok (.putfield 35, 3) := by decide +kernel
theorem dX4_init_69 : decode cX4_init 69 = .ok (.aload_n 0, 1) := by decide +kernel
theorem dX4_init_70 : decode cX4_init 70 = .ok (.iconst 0, 1) := by decide +kernel
theorem dX4_init_71 : decode cX4_init 71 = .ok (.putfield 38, 3) := by decide +kernel
theorem dX4_init_74 : decode cX4_init 74 = .ok (.return_, 1) := by decide +kernel
theorem dX4_fieldName_0 : decode cX4_fieldName 0 = .ok (.bipush 6, 2) := by decide +kernel
theorem dX4_fieldName_2 : decode cX4_fieldName 2 = .ok (.iload_n 0, 1) := by decide +kernel
theorem dX4_fieldName_3 : decode cX4_fieldName 3 = .ok (.iconst 4, 1) := by decide +kernel
theorem dX4_fieldName_4 : decode cX4_fieldName 4 = .ok (.imul, 1) := by decide +kernel
theorem dX4_fieldName_5 : decode cX4_fieldName 5 = .ok (.iadd, 1) := by decide +kernel
theorem dX4_fieldName_6 : decode cX4_fieldName 6 = .ok (.iload_n 1, 1) := by decide +kernel
theorem dX4_fieldName_7 : decode cX4_fieldName 7 = .ok (.iadd, 1) := by decide +kernel
theorem dX4_fieldName_8 : decode cX4_fieldName 8 = .ok (.ireturn, 1) := by decide +kernel
theorem dX4_isFieldName_0 : decode cX4_isFieldName 0 = .ok (.iload_n 0, 1) := by decide +kernel
theorem dX4_isFieldName_1 : decode cX4_isFieldName 1 = .ok (.bipush 6, 2) := by decide +kernel
theorem dX4_isFieldName_3 : decode cX4_isFieldName 3 = .ok (.if_icmp .lt 7, 3) := by decide +kernel
theorem dX4_isFieldName_6 : decode cX4_isFieldName 6 = .ok (.iconst 1, 1) := by decide +kernel
theorem dX4_isFieldName_7 : decode cX4_isFieldName 7 = .ok (.goto 4, 3) := by decide +kernel
theorem dX4_isFieldName_10 : decode cX4_isFieldName 10 = .ok (.iconst 0, 1) := by decide +kernel
theorem dX4_isFieldName_11 : decode cX4_isFieldName 11 = .ok (.ireturn, 1) := by decide +kernel
theorem dX4_size_0 : decode cX4_size 0 = .ok (.aload_n 0, 1) := by decide +kernel
theorem dX4_size_1 : decode cX4_size 1 = .ok (.getfield 38, 3) := by decide +kernel
theorem dX4_size_4 : decode cX4_size 4 = .ok (.ireturn, 1) := by decide +kernel
theorem dX4_isClass_0 : decode cX4_isClass 0 = .ok (.iload_n 1, 1) := by decide +kernel
theorem dX4_isClass_1 : decode cX4_isClass 1 = .ok (.ifCond .lt 15, 3) := by decide +kernel
theorem dX4_isClass_4 : decode cX4_isClass 4 = .ok (.iload_n 1, 1) := by decide +kernel
theorem dX4_isClass_5 : decode cX4_isClass 5 = .ok (.aload_n 0, 1) := by decide +kernel
theorem dX4_isClass_6 : decode cX4_isClass 6 = .ok (.getfield 38, 3) := by decide +kernel
theorem dX4_isClass_9 : decode cX4_isClass 9 = .ok (.if_icmp .ge 7, 3) := by decide +kernel
theorem dX4_isClass_12 : decode cX4_isClass 12 = .ok (.iconst 1, 1) := by decide +kernel
theorem dX4_isClass_13 : decode cX4_isClass 13 = .ok (.goto 4, 3) := by decide +kernel
theorem dX4_isClass_16 : decode cX4_isClass 16 = .ok (.iconst 0, 1) := by decide +kernel
theorem dX4_isClass_17 : decode cX4_isClass 17 = .ok (.ireturn, 1) := by decide +kernel
theorem dX4_fieldCount_0 : decode cX4_fieldCount 0 = .ok (.aload_n 0, 1) := by decide +kernel
theorem dX4_fieldCount_1 : decode cX4_fieldCount 1 = .ok (.iload_n 1, 1) := by decide +kernel
theorem dX4_fieldCount_2 : decode cX4_fieldCount 2 = .ok (.invokevirtual 42, 3) := by decide +kernel
theorem dX4_fieldCount_5 : decode cX4_fieldCount 5 = .ok (.ifCond .eq 12, 3) := by decide +kernel
theorem dX4_fieldCount_8 : decode cX4_fieldCount 8 = .ok (.aload_n 0, 1) := by decide +kernel
theorem dX4_fieldCount_9 : decode cX4_fieldCount 9 = .ok (.getfield 26, 3) := by decide +kernel
theorem dX4_fieldCount_12 : decode cX4_fieldCount 12 = .ok (.iload_n 1, 1) := by decide +kernel
theorem dX4_fieldCount_13 : decode cX4_fieldCount 13 = .ok (.iaload, 1) := by decide +kernel
theorem dX4_fieldCount_14 : decode cX4_fieldCount 14 = .ok (.goto 4, 3) := by decide +kernel
theorem dX4_fieldCount_17 : decode cX4_fieldCount 17 = .ok (.iconst 0, 1) := by decide +kernel
theorem dX4_fieldCount_18 : decode cX4_fieldCount 18 = .ok (.ireturn, 1) := by decide +kernel
theorem dX4_isField_0 : decode cX4_isField 0 = .ok (.iload_n 1, 1) := by decide +kernel
theorem dX4_isField_1 : decode cX4_isField 1 = .ok (.ifCond .lt 29, 3) := by decide +kernel
theorem dX4_isField_4 : decode cX4_isField 4 = .ok (.iload_n 1, 1) := by decide +kernel
theorem dX4_isField_5 : decode cX4_isField 5 = .ok (.aload_n 0, 1) := by decide +kernel
theorem dX4_isField_6 : decode cX4_isField 6 = .ok (.getfield 38, 3) := by decide +kernel
theorem dX4_isField_9 : decode cX4_isField 9 = .ok (.if_icmp .ge 21, 3) := by decide +kernel
theorem dX4_isField_12 : decode cX4_isField 12 = .ok (.iload_n 2, 1) := by decide +kernel
theorem dX4_isField_13 : decode cX4_isField 13 = .ok (.ifCond .lt 17, 3) := by decide +kernel
theorem dX4_isField_16 : decode cX4_isField 16 = .ok (.iload_n 2, 1) := by decide +kernel
theorem dX4_isField_17 : decode cX4_isField 17 = .ok (.aload_n 0, 1) := by decide +kernel
theorem dX4_isField_18 : decode cX4_isField 18 = .ok (.getfield 26, 3) := by decide +kernel
theorem dX4_isField_21 : decode cX4_isField 21 = .ok (.iload_n 1, 1) := by decide +kernel
theorem dX4_isField_22 : decode cX4_isField 22 = .ok (.iaload, 1) := by decide +kernel
theorem dX4_isField_23 : decode cX4_isField 23 = .ok (.if_icmp .ge 7, 3) := by decide +kernel
theorem dX4_isField_26 : decode cX4_isField 26 = .ok (.iconst 1, 1) := by decide +kernel
theorem dX4_isField_27 : decode cX4_isField 27 = .ok (.goto 4, 3) := by decide +kernel
theorem dX4_isField_30 : decode cX4_isField 30 = .ok (.iconst 0, 1) := by decide +kernel
theorem dX4_isField_31 : decode cX4_isField 31 = .ok (.ireturn, 1) := by decide +kernel
theorem dX4_shape_0 : decode cX4_shape 0 = .ok (.aload_n 0, 1) := by decide +kernel
theorem dX4_shape_1 : decode cX4_shape 1 = .ok (.iload_n 1, 1) := by decide +kernel
theorem dX4_shape_2 : decode cX4_shape 2 = .ok (.iload_n 2, 1) := by decide +kernel
theorem dX4_shape_3 : decode cX4_shape 3 = .ok (.invokevirtual 46, 3) := by decide +kernel
theorem dX4_shape_6 : decode cX4_shape 6 = .ok (.ifCond .eq 16, 3) := by decide +kernel
theorem dX4_shape_9 : decode cX4_shape 9 = .ok (.aload_n 0, 1) := by decide +kernel
theorem dX4_shape_10 : decode cX4_shape 10 = .ok (.getfield 19, 3) := by decide +kernel
theorem dX4_shape_13 : decode cX4_shape 13 = .ok (.iload_n 1, 1) := by decide +kernel
theorem dX4_shape_14 : decode cX4_shape 14 = .ok (.iconst 4, 1) := by decide +kernel
theorem dX4_shape_15 : decode cX4_shape 15 = .ok (.imul, 1) := by decide +kernel
theorem dX4_shape_16 : decode cX4_shape 16 = .ok (.iload_n 2, 1) := by decide +kernel
theorem dX4_shape_17 : decode cX4_shape 17 = .ok (.iadd, 1) := by decide +kernel
theorem dX4_shape_18 : decode cX4_shape 18 = .ok (.iaload, 1) := by decide +kernel
theorem dX4_shape_19 : decode cX4_shape 19 = .ok (.goto 4, 3) := by decide +kernel
theorem dX4_shape_22 : decode cX4_shape 22 = .ok (.iconst 0, 1) := by decide +kernel
theorem dX4_shape_23 : decode cX4_shape 23 = .ok (.ireturn, 1) := by decide +kernel
theorem dX4_isAttribute_0 : decode cX4_isAttribute 0 = .ok (.aload_n 0, 1) := by decide +kernel
theorem dX4_isAttribute_1 : decode cX4_isAttribute 1 = .ok (.iload_n 1, 1) := by decide +kernel
theorem dX4_isAttribute_2 : decode cX4_isAttribute 2 = .ok (.iload_n 2, 1) := by decide +kernel
theorem dX4_isAttribute_3 : decode cX4_isAttribute 3 = .ok (.invokevirtual 46, 3) := by decide +kernel
theorem dX4_isAttribute_6 : decode cX4_isAttribute 6 = .ok (.ifCond .eq 20, 3) := by decide +kernel
theorem dX4_isAttribute_9 : decode cX4_isAttribute 9 = .ok (.aload_n 0, 1) := by decide +kernel
theorem dX4_isAttribute_10 : decode cX4_isAttribute 10 = .ok (.getfield 22, 3) := by decide +kernel
theorem dX4_isAttribute_13 : decode cX4_isAttribute 13 = .ok (.iload_n 1, 1) := by decide +kernel
theorem dX4_isAttribute_14 : decode cX4_isAttribute 14 = .ok (.iconst 4, 1) := by decide +kernel
theorem dX4_isAttribute_15 : decode cX4_isAttribute 15 = .ok (.imul, 1) := by decide +kernel
theorem dX4_isAttribute_16 : decode cX4_isAttribute 16 = .ok (.iload_n 2, 1) := by decide +kernel
theorem dX4_isAttribute_17 : decode cX4_isAttribute 17 = .ok (.iadd, 1) := by decide +kernel
theorem dX4_isAttribute_18 : decode cX4_isAttribute 18 = .ok (.baload, 1) := by decide +kernel
theorem dX4_isAttribute_19 : decode cX4_isAttribute 19 = .ok (.ifCond .eq 7, 3) := by decide +kernel
theorem dX4_isAttribute_22 : decode cX4_isAttribute 22 = .ok (.iconst 1, 1) := by decide +kernel
theorem dX4_isAttribute_23 : decode cX4_isAttribute 23 = .ok (.goto 4, 3) := by decide +kernel
theorem dX4_isAttribute_26 : decode cX4_isAttribute 26 = .ok (.iconst 0, 1) := by decide +kernel
theorem dX4_isAttribute_27 : decode cX4_isAttribute 27 = .ok (.ireturn, 1) := by decide +kernel
theorem dX4_implicit_0 : decode cX4_implicit 0 = .ok (.aload_n 0, 1) := by decide +kernel
theorem dX4_implicit_1 : decode cX4_implicit 1 = .ok (.iload_n 1, 1) := by decide +kernel
theorem dX4_implicit_2 : decode cX4_implicit 2 = .ok (.invokevirtual 42, 3) := by decide +kernel
theorem dX4_implicit_5 : decode cX4_implicit 5 = .ok (.ifCond .eq 12, 3) := by decide +kernel
theorem dX4_implicit_8 : decode cX4_implicit 8 = .ok (.aload_n 0, 1) := by decide +kernel
theorem dX4_implicit_9 : decode cX4_implicit 9 = .ok (.getfield 29, 3) := by decide +kernel
theorem dX4_implicit_12 : decode cX4_implicit 12 = .ok (.iload_n 1, 1) := by decide +kernel
theorem dX4_implicit_13 : decode cX4_implicit 13 = .ok (.iaload, 1) := by decide +kernel
theorem dX4_implicit_14 : decode cX4_implicit 14 = .ok (.goto 4, 3) := by decide +kernel
theorem dX4_implicit_17 : decode cX4_implicit 17 = .ok (.iconst (-1), 1) := by decide +kernel
theorem dX4_implicit_18 : decode cX4_implicit 18 = .ok (.ireturn, 1) := by decide +kernel
theorem dX4_isExplicitList_0 : decode cX4_isExplicitList 0 = .ok (.aload_n 0, 1) := by decide +kernel
theorem dX4_isExplicitList_1 : decode cX4_isExplicitList 1 = .ok (.iload_n 1, 1) := by decide +kernel
theorem dX4_isExplicitList_2 : decode cX4_isExplicitList 2 = .ok (.iload_n 2, 1) := by decide +kernel
theorem dX4_isExplicitList_3 : decode cX4_isExplicitList 3 = .ok (.invokevirtual 50, 3) := by decide +kernel
theorem dX4_isExplicitList_6 : decode cX4_isExplicitList 6 = .ok (.iconst 4, 1) := by decide +kernel
theorem dX4_isExplicitList_7 : decode cX4_isExplicitList 7 = .ok (.if_icmp .ne 16, 3) := by decide +kernel
theorem dX4_isExplicitList_10 : decode cX4_isExplicitList 10 = .ok (.aload_n 0, 1) := by decide +kernel
theorem dX4_isExplicitList_11 : decode cX4_isExplicitList 11 = .ok (.iload_n 1, 1) := by decide +kernel
theorem dX4_isExplicitList_12 : decode cX4_isExplicitList 12 = .ok (.invokevirtual 54, 3) := by decide +kernel
theorem dX4_isExplicitList_15 : decode cX4_isExplicitList 15 = .ok (.iload_n 2, 1) := by decide +kernel
theorem dX4_isExplicitList_16 : decode cX4_isExplicitList 16 = .ok (.if_icmp .eq 7, 3) := by decide +kernel
theorem dX4_isExplicitList_19 : decode cX4_isExplicitList 19 = .ok (.iconst 1, 1) := by decide +kernel
theorem dX4_isExplicitList_20 : decode cX4_isExplicitList 20 = .ok (.goto 4, 3) := by decide +kernel
theorem dX4_isExplicitList_23 : decode cX4_isExplicitList 23 = .ok (.iconst 0, 1) := by decide +kernel
theorem dX4_isExplicitList_24 : decode cX4_isExplicitList 24 = .ok (.ireturn, 1) := by decide +kernel
theorem dX4_references_0 : decode cX4_references 0 = .ok (.aload_n 0, 1) := by decide +kernel
theorem dX4_references_1 : decode cX4_references 1 = .ok (.iload_n 1, 1) := by decide +kernel
theorem dX4_references_2 : decode cX4_references 2 = .ok (.invokevirtual 42, 3) := by decide +kernel
theorem dX4_references_5 : decode cX4_references 5 = .ok (.ifCond .eq 12, 3) := by decide +kernel
theorem dX4_references_8 : decode cX4_references 8 = .ok (.aload_n 0, 1) := by decide +kernel
theorem dX4_references_9 : decode cX4_references 9 = .ok (.getfield 32, 3) := by decide +kernel
theorem dX4_references_12 : decode cX4_references 12 = .ok (.iload_n 1, 1) := by decide +kernel
theorem dX4_references_13 : decode cX4_references 13 = .ok (.iaload, 1) := by decide +kernel
theorem dX4_references_14 : decode cX4_references 14 = .ok (.goto 4, 3) := by decide +kernel
theorem dX4_references_17 : decode cX4_references 17 = .ok (.iconst 0, 1) := by decide +kernel
theorem dX4_references_18 : decode cX4_references 18 = .ok (.ireturn, 1) := by decide +kernel
theorem dX4_isForbidden_0 : decode cX4_isForbidden 0 = .ok (.aload_n 0, 1) := by decide +kernel
theorem dX4_isForbidden_1 : decode cX4_isForbidden 1 = .ok (.iload_n 1, 1) := by decide +kernel
theorem dX4_isForbidden_2 : decode cX4_isForbidden 2 = .ok (.invokevirtual 42, 3) := by decide +kernel
theorem dX4_isForbidden_5 : decode cX4_isForbidden 5 = .ok (.ifCond .eq 16, 3) := by decide +kernel
theorem dX4_isForbidden_8 : decode cX4_isForbidden 8 = .ok (.aload_n 0, 1) := by decide +kernel
theorem dX4_isForbidden_9 : decode cX4_isForbidden 9 = .ok (.getfield 35, 3) := by decide +kernel
theorem dX4_isForbidden_12 : decode cX4_isForbidden 12 = .ok (.iload_n 1, 1) := by decide +kernel
theorem dX4_isForbidden_13 : decode cX4_isForbidden 13 = .ok (.baload, 1) := by decide +kernel
theorem dX4_isForbidden_14 : decode cX4_isForbidden 14 = .ok (.ifCond .eq 7, 3) := by decide +kernel
theorem dX4_isForbidden_17 : decode cX4_isForbidden 17 = .ok (.iconst 1, 1) := by decide +kernel
theorem dX4_isForbidden_18 : decode cX4_isForbidden 18 = .ok (.goto 4, 3) := by decide +kernel
theorem dX4_isForbidden_21 : decode cX4_isForbidden 21 = .ok (.iconst 0, 1) := by decide +kernel
theorem dX4_isForbidden_22 : decode cX4_isForbidden 22 = .ok (.ireturn, 1) := by decide +kernel
theorem dX4_putForbidden_0 : decode cX4_putForbidden 0 = .ok (.aload_n 0, 1) := by decide +kernel
theorem dX4_putForbidden_1 : decode cX4_putForbidden 1 = .ok (.iload_n 1, 1) := by decide +kernel
theorem dX4_putForbidden_2 : decode cX4_putForbidden 2 = .ok (.invokevirtual 42, 3) := by decide +kernel
theorem dX4_putForbidden_5 : decode cX4_putForbidden 5 = .ok (.ifCond .eq 10, 3) := by decide +kernel
theorem dX4_putForbidden_8 : decode cX4_putForbidden 8 = .ok (.aload_n 0, 1) := by decide +kernel
theorem dX4_putForbidden_9 : decode cX4_putForbidden 9 = .ok (.getfield 35, 3) := by decide +kernel
theorem dX4_putForbidden_12 : decode cX4_putForbidden 12 = .ok (.iload_n 1, 1) := by decide +kernel
theorem dX4_putForbidden_13 : decode cX4_putForbidden 13 = .ok (.iload_n 2, 1) := by decide +kernel
theorem dX4_putForbidden_14 : decode cX4_putForbidden 14 = .ok (.bastore, 1) := by decide +kernel
theorem dX4_putForbidden_15 : decode cX4_putForbidden 15 = .ok (.return_, 1) := by decide +kernel
theorem dX4_forbiddenSize_0 : decode cX4_forbiddenSize 0 = .ok (.iconst 0, 1) := by decide +kernel
theorem dX4_forbiddenSize_1 : decode cX4_forbiddenSize 1 = .ok (.istore_n 1, 1) := by decide +kernel
theorem dX4_forbiddenSize_2 : decode cX4_forbiddenSize 2 = .ok (.iconst 0, 1) := by decide +kernel
theorem dX4_forbiddenSize_3 : decode cX4_forbiddenSize 3 = .ok (.istore_n 2, 1) := by decide +kernel
theorem dX4_forbiddenSize_4 : decode cX4_forbiddenSize 4 = .ok (.iload_n 2, 1) := by decide +kernel
theorem dX4_forbiddenSize_5 : decode cX4_forbiddenSize 5 = .ok (.aload_n 0, 1) := by decide +kernel
theorem dX4_forbiddenSize_6 : decode cX4_forbiddenSize 6 = .ok (.getfield 38, 3) := by decide +kernel
theorem dX4_forbiddenSize_9 : decode cX4_forbiddenSize 9 = .ok (.if_icmp .ge 21, 3) := by decide +kernel
theorem dX4_forbiddenSize_12 : decode cX4_forbiddenSize 12 = .ok (.aload_n 0, 1) := by decide +kernel
theorem dX4_forbiddenSize_13 : decode cX4_forbiddenSize 13 = .ok (.getfield 35, 3) := by decide +kernel
theorem dX4_forbiddenSize_16 : decode cX4_forbiddenSize 16 = .ok (.iload_n 2, 1) := by decide +kernel
theorem dX4_forbiddenSize_17 : decode cX4_forbiddenSize 17 = .ok (.baload, 1) := by decide +kernel
theorem dX4_forbiddenSize_18 : decode cX4_forbiddenSize 18 = .ok (.ifCond .eq 6, 3) := by decide +kernel
theorem dX4_forbiddenSize_21 : decode cX4_forbiddenSize 21 = .ok (.iinc 1 1, 3) := by decide +kernel
theorem dX4_forbiddenSize_24 : decode cX4_forbiddenSize 24 = .ok (.iinc 2 1, 3) := by decide +kernel
theorem dX4_forbiddenSize_27 : decode cX4_forbiddenSize 27 = .ok (.goto (-23), 3) := by decide +kernel
theorem dX4_forbiddenSize_30 : decode cX4_forbiddenSize 30 = .ok (.iload_n 1, 1) := by decide +kernel
theorem dX4_forbiddenSize_31 : decode cX4_forbiddenSize 31 = .ok (.ireturn, 1) := by decide +kernel
theorem dX4_clear_0 : decode cX4_clear 0 = .ok (.aload_n 0, 1) := by decide +kernel
theorem dX4_clear_1 : decode cX4_clear 1 = .ok (.iconst 0, 1) := by decide +kernel
theorem dX4_clear_2 : decode cX4_clear 2 = .ok (.putfield 38, 3) := by decide +kernel
theorem dX4_clear_5 : decode cX4_clear 5 = .ok (.return_, 1) := by decide +kernel
theorem dX4_beginClass_0 : decode cX4_beginClass 0 = .ok (.aload_n 0, 1) := by decide +kernel
theorem dX4_beginClass_1 : decode cX4_beginClass 1 = .ok (.getfield 38, 3) := by decide +kernel
theorem dX4_beginClass_4 : decode cX4_beginClass 4 = .ok (.bipush 6, 2) := by decide +kernel
theorem dX4_beginClass_6 : decode cX4_beginClass 6 = .ok (.if_icmp .lt 4, 3) := by decide +kernel
theorem dX4_beginClass_9 : decode cX4_beginClass 9 = .ok (.return_, 1) := by decide +kernel
theorem dX4_beginClass_10 : decode cX4_beginClass 10 = .ok (.aload_n 0, 1) := by decide +kernel
theorem dX4_beginClass_11 : decode cX4_beginClass 11 = .ok (.getfield 15, 3) := by decide +kernel
theorem dX4_beginClass_14 : decode cX4_beginClass 14 = .ok (.aload_n 0, 1) := by decide +kernel
theorem dX4_beginClass_15 : decode cX4_beginClass 15 = .ok (.getfield 38, 3) := by decide +kernel
theorem dX4_beginClass_18 : decode cX4_beginClass 18 = .ok (.iconst 0, 1) := by decide +kernel
theorem dX4_beginClass_19 : decode cX4_beginClass 19 = .ok (.iastore, 1) := by decide +kernel
theorem dX4_beginClass_20 : decode cX4_beginClass 20 = .ok (.aload_n 0, 1) := by decide +kernel
theorem dX4_beginClass_21 : decode cX4_beginClass 21 = .ok (.getfield 26, 3) := by decide +kernel
theorem dX4_beginClass_24 : decode cX4_beginClass 24 = .ok (.aload_n 0, 1) := by decide +kernel
theorem dX4_beginClass_25 : decode cX4_beginClass 25 = .ok (.getfield 38, 3) := by decide +kernel
theorem dX4_beginClass_28 : decode cX4_beginClass 28 = .ok (.iconst 0, 1) := by decide +kernel
theorem dX4_beginClass_29 : decode cX4_beginClass 29 = .ok (.iastore, 1) := by decide +kernel
theorem dX4_beginClass_30 : decode cX4_beginClass 30 = .ok (.aload_n 0, 1) := by decide +kernel
theorem dX4_beginClass_31 : decode cX4_beginClass 31 = .ok (.getfield 29, 3) := by decide +kernel
theorem dX4_beginClass_34 : decode cX4_beginClass 34 = .ok (.aload_n 0, 1) := by decide +kernel
theorem dX4_beginClass_35 : decode cX4_beginClass 35 = .ok (.getfield 38, 3) := by decide +kernel
theorem dX4_beginClass_38 : decode cX4_beginClass 38 = .ok (.iconst (-1), 1) := by decide +kernel
theorem dX4_beginClass_39 : decode cX4_beginClass 39 = .ok (.iastore, 1) := by decide +kernel
theorem dX4_beginClass_40 : decode cX4_beginClass 40 = .ok (.aload_n 0, 1) := by decide +kernel
theorem dX4_beginClass_41 : decode cX4_beginClass 41 = .ok (.getfield 32, 3) := by decide +kernel
theorem dX4_beginClass_44 : decode cX4_beginClass 44 = .ok (.aload_n 0, 1) := by decide +kernel
theorem dX4_beginClass_45 : decode cX4_beginClass 45 = .ok (.getfield 38, 3) := by decide +kernel
theorem dX4_beginClass_48 : decode cX4_beginClass 48 = .ok (.iconst 0, 1) := by decide +kernel
theorem dX4_beginClass_49 : decode cX4_beginClass 49 = .ok (.iastore, 1) := by decide +kernel
theorem dX4_beginClass_50 : decode cX4_beginClass 50 = .ok (.aload_n 0, 1) := by decide +kernel
theorem dX4_beginClass_51 : decode cX4_beginClass 51 = .ok (.getfield 35, 3) := by decide +kernel
theorem dX4_beginClass_54 : decode cX4_beginClass 54 = .ok (.aload_n 0, 1) := by decide +kernel
theorem dX4_beginClass_55 : decode cX4_beginClass 55 = .ok (.getfield 38, 3) := by decide +kernel
theorem dX4_beginClass_58 : decode cX4_beginClass 58 = .ok (.iconst 0, 1) := by decide +kernel
theorem dX4_beginClass_59 : decode cX4_beginClass 59 = .ok (.bastore, 1) := by decide +kernel
theorem dX4_beginClass_60 : decode cX4_beginClass 60 = .ok (.aload_n 0, 1) := by decide +kernel
theorem dX4_beginClass_61 : decode cX4_beginClass 61 = .ok (.dup, 1) := by decide +kernel
theorem dX4_beginClass_62 : decode cX4_beginClass 62 = .ok (.getfield 38, 3) := by decide +kernel
theorem dX4_beginClass_65 : decode cX4_beginClass 65 = .ok (.iconst 1, 1) := by decide +kernel
theorem dX4_beginClass_66 : decode cX4_beginClass 66 = .ok (.iadd, 1) := by decide +kernel
theorem dX4_beginClass_67 : decode cX4_beginClass 67 = .ok (.putfield 38, 3) := by decide +kernel
theorem dX4_beginClass_70 : decode cX4_beginClass 70 = .ok (.return_, 1) := by decide +kernel
theorem dX4_beginField_0 : decode cX4_beginField 0 = .ok (.aload_n 0, 1) := by decide +kernel
theorem dX4_beginField_1 : decode cX4_beginField 1 = .ok (.getfield 38, 3) := by decide +kernel
theorem dX4_beginField_4 : decode cX4_beginField 4 = .ok (.iconst 1, 1) := by decide +kernel
theorem dX4_beginField_5 : decode cX4_beginField 5 = .ok (.isub, 1) := by decide +kernel
theorem dX4_beginField_6 : decode cX4_beginField 6 = .ok (.istore_n 1, 1) := by decide +kernel
theorem dX4_beginField_7 : decode cX4_beginField 7 = .ok (.aload_n 0, 1) := by decide +kernel
theorem dX4_beginField_8 : decode cX4_beginField 8 = .ok (.iload_n 1, 1) := by decide +kernel
theorem dX4_beginField_9 : decode cX4_beginField 9 = .ok (.invokevirtual 42, 3) := by decide +kernel
theorem dX4_beginField_12 : decode cX4_beginField 12 = .ok (.ifCond .eq 13, 3) := by decide +kernel
theorem dX4_beginField_15 : decode cX4_beginField 15 = .ok (.aload_n 0, 1) := by decide +kernel
theorem dX4_beginField_16 : decode cX4_beginField 16 = .ok (.getfield 26, 3) := by decide +kernel
theorem dX4_beginField_19 : decode cX4_beginField 19 = .ok (.iload_n 1, 1) := by decide +kernel
theorem dX4_beginField_20 : decode cX4_beginField 20 = .ok (.iaload, 1) := by decide +kernel
theorem dX4_beginField_21 : decode cX4_beginField 21 = .ok (.iconst 4, 1) := by decide +kernel
theorem dX4_beginField_22 : decode cX4_beginField 22 = .ok (.if_icmp .lt 4, 3) := by decide +kernel
theorem dX4_beginField_25 : decode cX4_beginField 25 = .ok (.return_, 1) := by decide +kernel
theorem dX4_beginField_26 : decode cX4_beginField 26 = .ok (.aload_n 0, 1) := by decide +kernel
theorem dX4_beginField_27 : decode cX4_beginField 27 = .ok (.getfield 26, 3) := by decide +kernel
theorem dX4_beginField_30 : decode cX4_beginField 30 = .ok (.iload_n 1, 1) := by decide +kernel
theorem dX4_beginField_31 : decode cX4_beginField 31 = .ok (.iaload, 1) := by decide +kernel
theorem dX4_beginField_32 : decode cX4_beginField 32 = .ok (.istore_n 2, 1) := by decide +kernel
theorem dX4_beginField_33 : decode cX4_beginField 33 = .ok (.aload_n 0, 1) := by decide +kernel
theorem dX4_beginField_34 : decode cX4_beginField 34 = .ok (.getfield 15, 3) := by decide +kernel
theorem dX4_beginField_37 : decode cX4_beginField 37 = .ok (.iload_n 1, 1) := by decide +kernel
theorem dX4_beginField_38 : decode cX4_beginField 38 = .ok (.iload_n 2, 1) := by decide +kernel
theorem dX4_beginField_39 : decode cX4_beginField 39 = .ok (.invokestatic 58, 3) := by decide +kernel
theorem dX4_beginField_42 : decode cX4_beginField 42 = .ok (.iconst 0, 1) := by decide +kernel
theorem dX4_beginField_43 : decode cX4_beginField 43 = .ok (.iastore, 1) := by decide +kernel
theorem dX4_beginField_44 : decode cX4_beginField 44 = .ok (.aload_n 0, 1) := by decide +kernel
theorem dX4_beginField_45 : decode cX4_beginField 45 = .ok (.getfield 19, 3) := by decide +kernel
theorem dX4_beginField_48 : decode cX4_beginField 48 = .ok (.iload_n 1, 1) := by decide +kernel
theorem dX4_beginField_49 : decode cX4_beginField 49 = .ok (.iconst 4, 1) := by decide +kernel
theorem dX4_beginField_50 : decode cX4_beginField 50 = .ok (.imul, 1) := by decide +kernel
theorem dX4_beginField_51 : decode cX4_beginField 51 = .ok (.iload_n 2, 1) := by decide +kernel
theorem dX4_beginField_52 : decode cX4_beginField 52 = .ok (.iadd, 1) := by decide +kernel
theorem dX4_beginField_53 : decode cX4_beginField 53 = .ok (.iconst 0, 1) := by decide +kernel
theorem dX4_beginField_54 : decode cX4_beginField 54 = .ok (.iastore, 1) := by decide +kernel
theorem dX4_beginField_55 : decode cX4_beginField 55 = .ok (.aload_n 0, 1) := by decide +kernel
theorem dX4_beginField_56 : decode cX4_beginField 56 = .ok (.getfield 22, 3) := by decide +kernel
theorem dX4_beginField_59 : decode cX4_beginField 59 = .ok (.iload_n 1, 1) := by decide +kernel
theorem dX4_beginField_60 : decode cX4_beginField 60 = .ok (.iconst 4, 1) := by decide +kernel
theorem dX4_beginField_61 : decode cX4_beginField 61 = .ok (.imul, 1) := by decide +kernel
theorem dX4_beginField_62 : decode cX4_beginField 62 = .ok (.iload_n 2, 1) := by decide +kernel
theorem dX4_beginField_63 : decode cX4_beginField 63 = .ok (.iadd, 1) := by decide +kernel
theorem dX4_beginField_64 : decode cX4_beginField 64 = .ok (.iconst 0, 1) := by decide +kernel
theorem dX4_beginField_65 : decode cX4_beginField 65 = .ok (.bastore, 1) := by decide +kernel
theorem dX4_beginField_66 : decode cX4_beginField 66 = .ok (.aload_n 0, 1) := by decide +kernel
theorem dX4_beginField_67 : decode cX4_beginField 67 = .ok (.getfield 26, 3) := by decide +kernel
theorem dX4_beginField_70 : decode cX4_beginField 70 = .ok (.iload_n 1, 1) := by decide +kernel
theorem dX4_beginField_71 : decode cX4_beginField 71 = .ok (.dup2, 1) := by decide +kernel
theorem dX4_beginField_72 : decode cX4_beginField 72 = .ok (.iaload, 1) := by decide +kernel
theorem dX4_beginField_73 : decode cX4_beginField 73 = .ok (.iconst 1, 1) := by decide +kernel
theorem dX4_beginField_74 : decode cX4_beginField 74 = .ok (.iadd, 1) := by decide +kernel
theorem dX4_beginField_75 : decode cX4_beginField 75 = .ok (.iastore, 1) := by decide +kernel
theorem dX4_beginField_76 : decode cX4_beginField 76 = .ok (.return_, 1) := by decide +kernel
theorem dX4_putShape_0 : decode cX4_putShape 0 = .ok (.aload_n 0, 1) := by decide +kernel
theorem dX4_putShape_1 : decode cX4_putShape 1 = .ok (.iload_n 1, 1) := by decide +kernel
theorem dX4_putShape_2 : decode cX4_putShape 2 = .ok (.iload_n 2, 1) := by decide +kernel
theorem dX4_putShape_3 : decode cX4_putShape 3 = .ok (.invokevirtual 46, 3) := by decide +kernel
theorem dX4_putShape_6 : decode cX4_putShape 6 = .ok (.ifCond .eq 35, 3) := by decide +kernel
theorem dX4_putShape_9 : decode cX4_putShape 9 = .ok (.aload_n 0, 1) := by decide +kernel
theorem dX4_putShape_10 : decode cX4_putShape 10 = .ok (.getfield 19, 3) := by decide +kernel
theorem dX4_putShape_13 : decode cX4_putShape 13 = .ok (.iload_n 1, 1) := by decide +kernel
theorem dX4_putShape_14 : decode cX4_putShape 14 = .ok (.iconst 4, 1) := by decide +kernel
theorem dX4_putShape_15 : decode cX4_putShape 15 = .ok (.imul, 1) := by decide +kernel
theorem dX4_putShape_16 : decode cX4_putShape 16 = .ok (.iload_n 2, 1) := by decide +kernel
theorem dX4_putShape_17 : decode cX4_putShape 17 = .ok (.iadd, 1) := by decide +kernel
theorem dX4_putShape_18 : decode cX4_putShape 18 = .ok (.iload_n 3, 1) := by decide +kernel
theorem dX4_putShape_19 : decode cX4_putShape 19 = .ok (.iastore, 1) := by decide +kernel
theorem dX4_putShape_20 : decode cX4_putShape 20 = .ok (.aload_n 0, 1) := by decide +kernel
theorem dX4_putShape_21 : decode cX4_putShape 21 = .ok (.getfield 32, 3) := by decide +kernel
theorem dX4_putShape_24 : decode cX4_putShape 24 = .ok (.iload_n 1, 1) := by decide +kernel
theorem dX4_putShape_25 : decode cX4_putShape 25 = .ok (.dup2, 1) := by decide +kernel
theorem dX4_putShape_26 : decode cX4_putShape 26 = .ok (.iaload, 1) := by decide +kernel
theorem dX4_putShape_27 : decode cX4_putShape 27 = .ok (.iload_n 3, 1) := by decide +kernel
theorem dX4_putShape_28 : decode cX4_putShape 28 = .ok (.iconst 3, 1) := by decide +kernel
theorem dX4_putShape_29 : decode cX4_putShape 29 = .ok (.if_icmp .ne 9, 3) := by decide +kernel
theorem dX4_putShape_32 : decode cX4_putShape 32 = .ok (.iconst 1, 1) := by decide +kernel
theorem dX4_putShape_33 : decode cX4_putShape 33 = .ok (.iload_n 2, 1) := by decide +kernel
theorem dX4_putShape_34 : decode cX4_putShape 34 = .ok (.ishl, 1) := by decide +kernel
theorem dX4_putShape_35 : decode cX4_putShape 35 = .ok (.goto 4, 3) := by decide +kernel
theorem dX4_putShape_38 : decode cX4_putShape 38 = .ok (.iconst 0, 1) := by decide +kernel
theorem dX4_putShape_39 : decode cX4_putShape 39 = .ok (.ior, 1) := by decide +kernel
theorem dX4_putShape_40 : decode cX4_putShape 40 = .ok (.iastore, 1) := by decide +kernel
theorem dX4_putShape_41 : decode cX4_putShape 41 = .ok (.return_, 1) := by decide +kernel
theorem dX4_putAttribute_0 : decode cX4_putAttribute 0 = .ok (.aload_n 0, 1) := by decide +kernel
theorem dX4_putAttribute_1 : decode cX4_putAttribute 1 = .ok (.iload_n 1, 1) := by decide +kernel
theorem dX4_putAttribute_2 : decode cX4_putAttribute 2 = .ok (.iload_n 2, 1) := by decide +kernel
theorem dX4_putAttribute_3 : decode cX4_putAttribute 3 = .ok (.invokevirtual 46, 3) := by decide +kernel
theorem dX4_putAttribute_6 : decode cX4_putAttribute 6 = .ok (.ifCond .eq 14, 3) := by decide +kernel
theorem dX4_putAttribute_9 : decode cX4_putAttribute 9 = .ok (.aload_n 0, 1) := by decide +kernel
theorem dX4_putAttribute_10 : decode cX4_putAttribute 10 = .ok (.getfield 22, 3) := by decide +kernel
theorem dX4_putAttribute_13 : decode cX4_putAttribute 13 = .ok (.iload_n 1, 1) := by decide +kernel
theorem dX4_putAttribute_14 : decode cX4_putAttribute 14 = .ok (.iconst 4, 1) := by decide +kernel
theorem dX4_putAttribute_15 : decode cX4_putAttribute 15 = .ok (.imul, 1) := by decide +kernel
theorem dX4_putAttribute_16 : decode cX4_putAttribute 16 = .ok (.iload_n 2, 1) := by decide +kernel
theorem dX4_putAttribute_17 : decode cX4_putAttribute 17 = .ok (.iadd, 1) := by decide +kernel
theorem dX4_putAttribute_18 : decode cX4_putAttribute 18 = .ok (.iconst 1, 1) := by decide +kernel
theorem dX4_putAttribute_19 : decode cX4_putAttribute 19 = .ok (.bastore, 1) := by decide +kernel
theorem dX4_putAttribute_20 : decode cX4_putAttribute 20 = .ok (.return_, 1) := by decide +kernel
theorem dX4_putImplicit_0 : decode cX4_putImplicit 0 = .ok (.aload_n 0, 1) := by decide +kernel
theorem dX4_putImplicit_1 : decode cX4_putImplicit 1 = .ok (.iload_n 1, 1) := by decide +kernel
theorem dX4_putImplicit_2 : decode cX4_putImplicit 2 = .ok (.iload_n 2, 1) := by decide +kernel
theorem dX4_putImplicit_3 : decode cX4_putImplicit 3 = .ok (.invokevirtual 46, 3) := by decide +kernel
theorem dX4_putImplicit_6 : decode cX4_putImplicit 6 = .ok (.ifCond .eq 10, 3) := by decide +kernel
theorem dX4_putImplicit_9 : decode cX4_putImplicit 9 = .ok (.aload_n 0, 1) := by decide +kernel
theorem dX4_putImplicit_10 : decode cX4_putImplicit 10 = .ok (.getfield 29, 3) := by decide +kernel
theorem dX4_putImplicit_13 : decode cX4_putImplicit 13 = .ok (.iload_n 1, 1) := by decide +kernel
theorem dX4_putImplicit_14 : decode cX4_putImplicit 14 = .ok (.iload_n 2, 1) := by decide +kernel
theorem dX4_putImplicit_15 : decode cX4_putImplicit 15 = .ok (.iastore, 1) := by decide +kernel
theorem dX4_putImplicit_16 : decode cX4_putImplicit 16 = .ok (.return_, 1) := by decide +kernel
theorem dX4_spellOn_0 : decode cX4_spellOn 0 = .ok (.iload_n 2, 1) := by decide +kernel
theorem dX4_spellOn_1 : decode cX4_spellOn 1 = .ok (.bipush 36, 2) := by decide +kernel
theorem dX4_spellOn_3 : decode cX4_spellOn 3 = .ok (.if_icmp .ne 20, 3) := by decide +kernel
theorem dX4_spellOn_6 : decode cX4_spellOn 6 = .ok (.aload_n 0, 1) := by decide +kernel
theorem dX4_spellOn_7 : decode cX4_spellOn 7 = .ok (.iload_n 1, 1) := by decide +kernel
theorem dX4_spellOn_8 : decode cX4_spellOn 8 = .ok (.bipush 95, 2) := by decide +kernel
theorem dX4_spellOn_10 : decode cX4_spellOn 10 = .ok (.invokevirtual 61, 3) := by decide +kernel
theorem dX4_spellOn_13 : decode cX4_spellOn 13 = .ok (.aload_n 0, 1) := by decide +kernel
theorem dX4_spellOn_14 : decode cX4_spellOn 14 = .ok (.iload_n 1, 1) := by decide +kernel
theorem dX4_spellOn_15 : decode cX4_spellOn 15 = .ok (.bipush 45, 2) := by decide +kernel
theorem dX4_spellOn_17 : decode cX4_spellOn 17 = .ok (.invokevirtual 61, 3) := by decide +kernel
theorem dX4_spellOn_20 : decode cX4_spellOn 20 = .ok (.goto 22, 3) := by decide +kernel
theorem dX4_spellOn_23 : decode cX4_spellOn 23 = .ok (.aload_n 0, 1) := by decide +kernel
theorem dX4_spellOn_24 : decode cX4_spellOn 24 = .ok (.iload_n 1, 1) := by decide +kernel
theorem dX4_spellOn_25 : decode cX4_spellOn 25 = .ok (.iload_n 2, 1) := by decide +kernel
theorem dX4_spellOn_26 : decode cX4_spellOn 26 = .ok (.invokevirtual 61, 3) := by decide +kernel
theorem dX4_spellOn_29 : decode cX4_spellOn 29 = .ok (.iload_n 2, 1) := by decide +kernel
theorem dX4_spellOn_30 : decode cX4_spellOn 30 = .ok (.bipush 95, 2) := by decide +kernel
theorem dX4_spellOn_32 : decode cX4_spellOn 32 = .ok (.if_icmp .ne 10, 3) := by decide +kernel
theorem dX4_spellOn_35 : decode cX4_spellOn 35 = .ok (.aload_n 0, 1) := by decide +kernel
theorem dX4_spellOn_36 : decode cX4_spellOn 36 = .ok (.iload_n 1, 1) := by decide +kernel
theorem dX4_spellOn_37 : decode cX4_spellOn 37 = .ok (.bipush 95, 2) := by decide +kernel
theorem dX4_spellOn_39 : decode cX4_spellOn 39 = .ok (.invokevirtual 61, 3) := by decide +kernel
theorem dX4_spellOn_42 : decode cX4_spellOn 42 = .ok (.return_, 1) := by decide +kernel
theorem dX4_letterOn_0 : decode cX4_letterOn 0 = .ok (.iload_n 1, 1) := by decide +kernel
theorem dX4_letterOn_1 : decode cX4_letterOn 1 = .ok (.ifCond .lt 48, 3) := by decide +kernel
theorem dX4_letterOn_4 : decode cX4_letterOn 4 = .ok (.iload_n 1, 1) := by decide +kernel
theorem dX4_letterOn_5 : decode cX4_letterOn 5 = .ok (.bipush 30, 2) := by decide +kernel
theorem dX4_letterOn_7 : decode cX4_letterOn 7 = .ok (.if_icmp .ge 42, 3) := by decide +kernel
theorem dX4_letterOn_10 : decode cX4_letterOn 10 = .ok (.aload_n 0, 1) := by decide +kernel
theorem dX4_letterOn_11 : decode cX4_letterOn 11 = .ok (.getfield 15, 3) := by decide +kernel
theorem dX4_letterOn_14 : decode cX4_letterOn 14 = .ok (.iload_n 1, 1) := by decide +kernel
theorem dX4_letterOn_15 : decode cX4_letterOn 15 = .ok (.iaload, 1) := by decide +kernel
theorem dX4_letterOn_16 : decode cX4_letterOn 16 = .ok (.bipush 16, 2) := by decide +kernel
theorem dX4_letterOn_18 : decode cX4_letterOn 18 = .ok (.if_icmp .ge 31, 3) := by decide +kernel
theorem dX4_letterOn_21 : decode cX4_letterOn 21 = .ok (.aload_n 0, 1) := by decide +kernel
theorem dX4_letterOn_22 : decode cX4_letterOn 22 = .ok (.getfield 11, 3) := by decide +kernel
theorem dX4_letterOn_25 : decode cX4_letterOn 25 = .ok (.iload_n 1, 1) := by decide +kernel
theorem dX4_letterOn_26 : decode cX4_letterOn 26 = .ok (.bipush 16, 2) := by decide +kernel
theorem dX4_letterOn_28 : decode cX4_letterOn 28 = .ok (.imul, 1) := by decide +kernel
theorem dX4_letterOn_29 : decode cX4_letterOn 29 = .ok (.aload_n 0, 1) := by decide +kernel
theorem dX4_letterOn_30 : decode cX4_letterOn 30 = .ok (.getfield 15, 3) := by decide +kernel
theorem dX4_letterOn_33 : decode cX4_letterOn 33 = .ok (.iload_n 1, 1) := by decide +kernel
theorem dX4_letterOn_34 : decode cX4_letterOn 34 = .ok (.iaload, 1) := by decide +kernel
theorem dX4_letterOn_35 : decode cX4_letterOn 35 = .ok (.iadd, 1) := by decide +kernel
theorem dX4_letterOn_36 : decode cX4_letterOn 36 = .ok (.iload_n 2, 1) := by decide +kernel
theorem dX4_letterOn_37 : decode cX4_letterOn 37 = .ok (.i2c, 1) := by decide +kernel
theorem dX4_letterOn_38 : decode cX4_letterOn 38 = .ok (.castore, 1) := by decide +kernel
theorem dX4_letterOn_39 : decode cX4_letterOn 39 = .ok (.aload_n 0, 1) := by decide +kernel
theorem dX4_letterOn_40 : decode cX4_letterOn 40 = .ok (.getfield 15, 3) := by decide +kernel
theorem dX4_letterOn_43 : decode cX4_letterOn 43 = .ok (.iload_n 1, 1) := by decide +kernel
theorem dX4_letterOn_44 : decode cX4_letterOn 44 = .ok (.dup2, 1) := by decide +kernel
theorem dX4_letterOn_45 : decode cX4_letterOn 45 = .ok (.iaload, 1) := by decide +kernel
theorem dX4_letterOn_46 : decode cX4_letterOn 46 = .ok (.iconst 1, 1) := by decide +kernel
theorem dX4_letterOn_47 : decode cX4_letterOn 47 = .ok (.iadd, 1) := by decide +kernel
theorem dX4_letterOn_48 : decode cX4_letterOn 48 = .ok (.iastore, 1) := by decide +kernel
theorem dX4_letterOn_49 : decode cX4_letterOn 49 = .ok (.return_, 1) := by decide +kernel
theorem dX4_spellTo_0 : decode cX4_spellTo 0 = .ok (.iload_n 2, 1) := by decide +kernel
theorem dX4_spellTo_1 : decode cX4_spellTo 1 = .ok (.ifCond .lt 9, 3) := by decide +kernel
theorem dX4_spellTo_4 : decode cX4_spellTo 4 = .ok (.iload_n 2, 1) := by decide +kernel
theorem dX4_spellTo_5 : decode cX4_spellTo 5 = .ok (.bipush 30, 2) := by decide +kernel
theorem dX4_spellTo_7 : decode cX4_spellTo 7 = .ok (.if_icmp .lt 4, 3) := by decide +kernel
theorem dX4_spellTo_10 : decode cX4_spellTo 10 = .ok (.return_, 1) := by decide +kernel
theorem dX4_spellTo_11 : decode cX4_spellTo 11 = .ok (.iconst 0, 1) := by decide +kernel
theorem dX4_spellTo_12 : decode cX4_spellTo 12 = .ok (.istore_n 3, 1) := by decide +kernel
theorem dX4_spellTo_13 : decode cX4_spellTo 13 = .ok (.iload_n 3, 1) := by decide +kernel
theorem dX4_spellTo_14 : decode cX4_spellTo 14 = .ok (.aload_n 0, 1) := by decide +kernel
theorem dX4_spellTo_15 : decode cX4_spellTo 15 = .ok (.getfield 15, 3) := by decide +kernel
theorem dX4_spellTo_18 : decode cX4_spellTo 18 = .ok (.iload_n 2, 1) := by decide +kernel
theorem dX4_spellTo_19 : decode cX4_spellTo 19 = .ok (.iaload, 1) := by decide +kernel
theorem dX4_spellTo_20 : decode cX4_spellTo 20 = .ok (.if_icmp .ge 25, 3) := by decide +kernel
theorem dX4_spellTo_23 : decode cX4_spellTo 23 = .ok (.aload_n 1, 1) := by decide +kernel
theorem dX4_spellTo_24 : decode cX4_spellTo 24 = .ok (.aload_n 0, 1) := by decide +kernel
theorem dX4_spellTo_25 : decode cX4_spellTo 25 = .ok (.getfield 11, 3) := by decide +kernel
theorem dX4_spellTo_28 : decode cX4_spellTo 28 = .ok (.iload_n 2, 1) := by decide +kernel
theorem dX4_spellTo_29 : decode cX4_spellTo 29 = .ok (.bipush 16, 2) := by decide +kernel
theorem dX4_spellTo_31 : decode cX4_spellTo 31 = .ok (.imul, 1) := by decide +kernel
theorem dX4_spellTo_32 : decode cX4_spellTo 32 = .ok (.iload_n 3, 1) := by decide +kernel
theorem dX4_spellTo_33 : decode cX4_spellTo 33 = .ok (.iadd, 1) := by decide +kernel
theorem dX4_spellTo_34 : decode cX4_spellTo 34 = .ok (.caload, 1) := by decide +kernel
theorem dX4_spellTo_35 : decode cX4_spellTo 35 = .ok (.invokevirtual 65, 3) := by decide +kernel
theorem dX4_spellTo_38 : decode cX4_spellTo 38 = .ok (.pop, 1) := by decide +kernel
theorem dX4_spellTo_39 : decode cX4_spellTo 39 = .ok (.iinc 3 1, 3) := by decide +kernel
theorem dX4_spellTo_42 : decode cX4_spellTo 42 = .ok (.goto (-29), 3) := by decide +kernel
theorem dX4_spellTo_45 : decode cX4_spellTo 45 = .ok (.return_, 1) := by decide +kernel
theorem dX4_spells_0 : decode cX4_spells 0 = .ok (.iload_n 1, 1) := by decide +kernel
theorem dX4_spells_1 : decode cX4_spells 1 = .ok (.ifCond .lt 22, 3) := by decide +kernel
theorem dX4_spells_4 : decode cX4_spells 4 = .ok (.iload_n 1, 1) := by decide +kernel
theorem dX4_spells_5 : decode cX4_spells 5 = .ok (.bipush 30, 2) := by decide +kernel
theorem dX4_spells_7 : decode cX4_spells 7 = .ok (.if_icmp .ge 16, 3) := by decide +kernel
theorem dX4_spells_10 : decode cX4_spells 10 = .ok (.aload_n 0, 1) := by decide +kernel
theorem dX4_spells_11 : decode cX4_spells 11 = .ok (.getfield 15, 3) := by decide +kernel
theorem dX4_spells_14 : decode cX4_spells 14 = .ok (.iload_n 1, 1) := by decide +kernel
theorem dX4_spells_15 : decode cX4_spells 15 = .ok (.iaload, 1) := by decide +kernel
theorem dX4_spells_16 : decode cX4_spells 16 = .ok (.iload 4, 2) := by decide +kernel
theorem dX4_spells_18 : decode cX4_spells 18 = .ok (.iload_n 3, 1) := by decide +kernel
theorem dX4_spells_19 : decode cX4_spells 19 = .ok (.isub, 1) := by decide +kernel
theorem dX4_spells_20 : decode cX4_spells 20 = .ok (.if_icmp .eq 5, 3) := by decide +kernel
theorem dX4_spells_23 : decode cX4_spells 23 = .ok (.iconst 0, 1) := by decide +kernel
theorem dX4_spells_24 : decode cX4_spells 24 = .ok (.ireturn, 1) := by decide +kernel
theorem dX4_spells_25 : decode cX4_spells 25 = .ok (.iconst 0, 1) := by decide +kernel
theorem dX4_spells_26 : decode cX4_spells 26 = .ok (.istore 5, 2) := by decide +kernel
theorem dX4_spells_28 : decode cX4_spells 28 = .ok (.iload 5, 2) := by decide +kernel
theorem dX4_spells_30 : decode cX4_spells 30 = .ok (.aload_n 0, 1) := by decide +kernel
theorem dX4_spells_31 : decode cX4_spells 31 = .ok (.getfield 15, 3) := by decide +kernel
theorem dX4_spells_34 : decode cX4_spells 34 = .ok (.iload_n 1, 1) := by decide +kernel
theorem dX4_spells_35 : decode cX4_spells 35 = .ok (.iaload, 1) := by decide +kernel
theorem dX4_spells_36 : decode cX4_spells 36 = .ok (.if_icmp .ge 34, 3) := by decide +kernel
theorem dX4_spells_39 : decode cX4_spells 39 = .ok (.aload_n 0, 1) := by decide +kernel
theorem dX4_spells_40 : decode cX4_spells 40 = .ok (.getfield 11, 3) := by decide +kernel
theorem dX4_spells_43 : decode cX4_spells 43 = .ok (.iload_n 1, 1) := by decide +kernel
theorem dX4_spells_44 : decode cX4_spells 44 = .ok (.bipush 16, 2) := by decide +kernel
theorem dX4_spells_46 : decode cX4_spells 46 = .ok (.imul, 1) := by decide +kernel
theorem dX4_spells_47 : decode cX4_spells 47 = .ok (.iload 5, 2) := by decide +kernel
theorem dX4_spells_49 : decode cX4_spells 49 = .ok (.iadd, 1) := by decide +kernel
theorem dX4_spells_50 : decode cX4_spells 50 = .ok (.caload, 1) := by decide +kernel
theorem dX4_spells_51 : decode cX4_spells 51 = .ok (.aload_n 2, 1) := by decide +kernel
theorem dX4_spells_52 : decode cX4_spells 52 = .ok (.iload_n 3, 1) := by decide +kernel
theorem dX4_spells_53 : decode cX4_spells 53 = .ok (.iload 5, 2) := by decide +kernel
theorem dX4_spells_55 : decode cX4_spells 55 = .ok (.iadd, 1) := by decide +kernel
theorem dX4_spells_56 : decode cX4_spells 56 = .ok (.invokevirtual 70, 3) := by decide +kernel
theorem dX4_spells_59 : decode cX4_spells 59 = .ok (.if_icmp .eq 5, 3) := by decide +kernel
theorem dX4_spells_62 : decode cX4_spells 62 = .ok (.iconst 0, 1) := by decide +kernel
theorem dX4_spells_63 : decode cX4_spells 63 = .ok (.ireturn, 1) := by decide +kernel
theorem dX4_spells_64 : decode cX4_spells 64 = .ok (.iinc 5 1, 3) := by decide +kernel
theorem dX4_spells_67 : decode cX4_spells 67 = .ok (.goto (-39), 3) := by decide +kernel
theorem dX4_spells_70 : decode cX4_spells 70 = .ok (.iconst 1, 1) := by decide +kernel
theorem dX4_spells_71 : decode cX4_spells 71 = .ok (.ireturn, 1) := by decide +kernel
theorem dX4_readableClass_0 : decode cX4_readableClass 0 = .ok (.iconst 0, 1) := by decide +kernel
theorem dX4_readableClass_1 : decode cX4_readableClass 1 = .ok (.istore 4, 2) := by decide +kernel
theorem dX4_readableClass_3 : decode cX4_readableClass 3 = .ok (.iload 4, 2) := by decide +kernel
theorem dX4_readableClass_5 : decode cX4_readableClass 5 = .ok (.aload_n 0, 1) := by decide +kernel
theorem dX4_readableClass_6 : decode cX4_readableClass 6 = .ok (.getfield 38, 3) := by decide +kernel
theorem dX4_readableClass_9 : decode cX4_readableClass 9 = .ok (.if_icmp .ge 38, 3) := by decide +kernel
theorem dX4_readableClass_12 : decode cX4_readableClass 12 = .ok (.aload_n 0, 1) := by decide +kernel
theorem dX4_readableClass_13 : decode cX4_readableClass 13 = .ok (.iload 4, 2) := by decide +kernel
theorem dX4_readableClass_15 : decode cX4_readableClass 15 = .ok (.aload_n 1, 1) := by decide +kernel
theorem dX4_readableClass_16 : decode cX4_readableClass 16 = .ok (.iload_n 2, 1) := by decide +kernel
theorem dX4_readableClass_17 : decode cX4_readableClass 17 = .ok (.iload_n 3, 1) := by decide +kernel
theorem dX4_readableClass_18 : decode cX4_readableClass 18 = .ok (.invokevirtual 73, 3) := by decide +kernel
theorem dX4_readableClass_21 : decode cX4_readableClass 21 = .ok (.ifCond .eq 20, 3) := by decide +kernel
theorem dX4_readableClass_24 : decode cX4_readableClass 24 = .ok (.aload_n 0, 1) := by decide +kernel
theorem dX4_readableClass_25 : decode cX4_readableClass 25 = .ok (.getfield 35, 3) := by decide +kernel
theorem dX4_readableClass_28 : decode cX4_readableClass 28 = .ok (.iload 4, 2) := by decide +kernel
theorem dX4_readableClass_30 : decode cX4_readableClass 30 = .ok (.baload, 1) := by decide +kernel
theorem dX4_readableClass_31 : decode cX4_readableClass 31 = .ok (.ifCond .eq 7, 3) := by decide +kernel
theorem dX4_readableClass_34 : decode cX4_readableClass 34 = .ok (.iconst (-1), 1) := by decide +kernel
theorem dX4_readableClass_35 : decode cX4_readableClass 35 = .ok (.goto 5, 3) := by decide +kernel
theorem dX4_readableClass_38 : decode cX4_readableClass 38 = .ok (.iload 4, 2) := by decide +kernel
theorem dX4_readableClass_40 : decode cX4_readableClass 40 = .ok (.ireturn, 1) := by decide +kernel
theorem dX4_readableClass_41 : decode cX4_readableClass 41 = .ok (.iinc 4 1, 3) := by decide +kernel
theorem dX4_readableClass_44 : decode cX4_readableClass 44 = .ok (.goto (-41), 3) := by decide +kernel
theorem dX4_readableClass_47 : decode cX4_readableClass 47 = .ok (.iconst (-1), 1) := by decide +kernel
theorem dX4_readableClass_48 : decode cX4_readableClass 48 = .ok (.ireturn, 1) := by decide +kernel
theorem dX4_fieldNamed_0 : decode cX4_fieldNamed 0 = .ok (.iconst 0, 1) := by decide +kernel
theorem dX4_fieldNamed_1 : decode cX4_fieldNamed 1 = .ok (.istore 6, 2) := by decide +kernel
theorem dX4_fieldNamed_3 : decode cX4_fieldNamed 3 = .ok (.iload 6, 2) := by decide +kernel
theorem dX4_fieldNamed_5 : decode cX4_fieldNamed 5 = .ok (.aload_n 0, 1) := by decide +kernel
theorem dX4_fieldNamed_6 : decode cX4_fieldNamed 6 = .ok (.iload_n 1, 1) := by decide +kernel
theorem dX4_fieldNamed_7 : decode cX4_fieldNamed 7 = .ok (.invokevirtual 77, 3) := by decide +kernel
theorem dX4_fieldNamed_10 : decode cX4_fieldNamed 10 = .ok (.if_icmp .ge 41, 3) := by decide +kernel
theorem dX4_fieldNamed_13 : decode cX4_fieldNamed 13 = .ok (.aload_n 0, 1) := by decide +kernel
theorem dX4_fieldNamed_14 : decode cX4_fieldNamed 14 = .ok (.iload_n 1, 1) := by decide +kernel
theorem dX4_fieldNamed_15 : decode cX4_fieldNamed 15 = .ok (.iload 6, 2) := by decide +kernel
theorem dX4_fieldNamed_17 : decode cX4_fieldNamed 17 = .ok (.invokevirtual 80, 3) := by decide +kernel
theorem dX4_fieldNamed_20 : decode cX4_fieldNamed 20 = .ok (.iload_n 2, 1) := by decide +kernel
theorem dX4_fieldNamed_21 : decode cX4_fieldNamed 21 = .ok (.if_icmp .ne 24, 3) := by decide +kernel
theorem dX4_fieldNamed_24 : decode cX4_fieldNamed 24 = .ok (.aload_n 0, 1) := by decide +kernel
theorem dX4_fieldNamed_25 : decode cX4_fieldNamed 25 = .ok (.iload_n 1, 1) := by decide +kernel
theorem dX4_fieldNamed_26 : decode cX4_fieldNamed 26 = .ok (.iload 6, 2) := by decide +kernel
theorem dX4_fieldNamed_28 : decode cX4_fieldNamed 28 = .ok (.invokestatic 58, 3) := by decide +kernel
theorem dX4_fieldNamed_31 : decode cX4_fieldNamed 31 = .ok (.aload_n 3, 1) := by decide +kernel
theorem dX4_fieldNamed_32 : decode cX4_fieldNamed 32 = .ok (.iload 4, 2) := by decide +kernel
theorem dX4_fieldNamed_34 : decode cX4_fieldNamed 34 = .ok (.iload 5, 2) := by decide +kernel
theorem dX4_fieldNamed_36 : decode cX4_fieldNamed 36 = .ok (.invokevirtual 73, 3) := by decide +kernel
theorem dX4_fieldNamed_39 : decode cX4_fieldNamed 39 = .ok (.ifCond .eq 6, 3) := by decide +kernel
theorem dX4_fieldNamed_42 : decode cX4_fieldNamed 42 = .ok (.iload 6, 2) := by decide +kernel
theorem dX4_fieldNamed_44 : decode cX4_fieldNamed 44 = .ok (.ireturn, 1) := by decide +kernel
theorem dX4_fieldNamed_45 : decode cX4_fieldNamed 45 = .ok (.iinc 6 1, 3) := by decide +kernel
theorem dX4_fieldNamed_48 : decode cX4_fieldNamed 48 = .ok (.goto (-45), 3) := by decide +kernel
theorem dX4_fieldNamed_51 : decode cX4_fieldNamed 51 = .ok (.iconst (-1), 1) := by decide +kernel
theorem dX4_fieldNamed_52 : decode cX4_fieldNamed 52 = .ok (.ireturn, 1) := by decide +kernel
theorem dX4_obeysNameRules_0 : decode cX4_obeysNameRules 0 = .ok (.iconst 0, 1) := by decide +kernel
theorem dX4_obeysNameRules_1 : decode cX4_obeysNameRules 1 = .ok (.istore_n 1, 1) := by decide +kernel
theorem dX4_obeysNameRules_2 : decode cX4_obeysNameRules 2 = .ok (.iload_n 1, 1) := by decide +kernel
theorem dX4_obeysNameRules_3 : decode cX4_obeysNameRules 3 = .ok (.aload_n 0, 1) := by decide +kernel
theorem dX4_obeysNameRules_4 : decode cX4_obeysNameRules 4 = .ok (.getfield 38, 3) := by decide +kernel
theorem dX4_obeysNameRules_7 : decode cX4_obeysNameRules 7 = .ok (.if_icmp .ge 50, 3) := by decide +kernel
theorem dX4_obeysNameRules_10 : decode cX4_obeysNameRules 10 = .ok (.aload_n 0, 1) := by decide +kernel
theorem dX4_obeysNameRules_11 : decode cX4_obeysNameRules 11 = .ok (.iload_n 1, 1) := by decide +kernel
theorem dX4_obeysNameRules_12 : decode cX4_obeysNameRules 12 = .ok (.iconst 0, 1) := by decide +kernel
theorem dX4_obeysNameRules_13 : decode cX4_obeysNameRules 13 = .ok (.iload_n 1, 1) := by decide +kernel
theorem dX4_obeysNameRules_14 : decode cX4_obeysNameRules 14 = .ok (.invokevirtual 83, 3) := by decide +kernel
theorem dX4_obeysNameRules_17 : decode cX4_obeysNameRules 17 = .ok (.ifCond .eq 5, 3) := by decide +kernel
theorem dX4_obeysNameRules_20 : decode cX4_obeysNameRules 20 = .ok (.iconst 0, 1) := by decide +kernel
theorem dX4_obeysNameRules_21 : decode cX4_obeysNameRules 21 = .ok (.ireturn, 1) := by decide +kernel
theorem dX4_obeysNameRules_22 : decode cX4_obeysNameRules 22 = .ok (.iconst 0, 1) := by decide +kernel
theorem dX4_obeysNameRules_23 : decode cX4_obeysNameRules 23 = .ok (.istore_n 2, 1) := by decide +kernel
theorem dX4_obeysNameRules_24 : decode cX4_obeysNameRules 24 = .ok (.iload_n 2, 1) := by decide +kernel
theorem dX4_obeysNameRules_25 : decode cX4_obeysNameRules 25 = .ok (.aload_n 0, 1) := by decide +kernel
theorem dX4_obeysNameRules_26 : decode cX4_obeysNameRules 26 = .ok (.getfield 26, 3) := by decide +kernel
theorem dX4_obeysNameRules_29 : decode cX4_obeysNameRules 29 = .ok (.iload_n 1, 1) := by decide +kernel
theorem dX4_obeysNameRules_30 : decode cX4_obeysNameRules 30 = .ok (.iaload, 1) := by decide +kernel
theorem dX4_obeysNameRules_31 : decode cX4_obeysNameRules 31 = .ok (.if_icmp .ge 20, 3) := by decide +kernel
theorem dX4_obeysNameRules_34 : decode cX4_obeysNameRules 34 = .ok (.aload_n 0, 1) := by decide +kernel
theorem dX4_obeysNameRules_35 : decode cX4_obeysNameRules 35 = .ok (.iload_n 1, 1) := by decide +kernel
theorem dX4_obeysNameRules_36 : decode cX4_obeysNameRules 36 = .ok (.iload_n 2, 1) := by decide +kernel
theorem dX4_obeysNameRules_37 : decode cX4_obeysNameRules 37 = .ok (.invokevirtual 87, 3) := by decide +kernel
theorem dX4_obeysNameRules_40 : decode cX4_obeysNameRules 40 = .ok (.ifCond .ne 5, 3) := by decide +kernel
theorem dX4_obeysNameRules_43 : decode cX4_obeysNameRules 43 = .ok (.iconst 0, 1) := by decide +kernel
theorem dX4_obeysNameRules_44 : decode cX4_obeysNameRules 44 = .ok (.ireturn, 1) := by decide +kernel
theorem dX4_obeysNameRules_45 : decode cX4_obeysNameRules 45 = .ok (.iinc 2 1, 3) := by decide +kernel
theorem dX4_obeysNameRules_48 : decode cX4_obeysNameRules 48 = .ok (.goto (-24), 3) := by decide +kernel
theorem dX4_obeysNameRules_51 : decode cX4_obeysNameRules 51 = .ok (.iinc 1 1, 3) := by decide +kernel
theorem dX4_obeysNameRules_54 : decode cX4_obeysNameRules 54 = .ok (.goto (-52), 3) := by decide +kernel
theorem dX4_obeysNameRules_57 : decode cX4_obeysNameRules 57 = .ok (.iconst 1, 1) := by decide +kernel
theorem dX4_obeysNameRules_58 : decode cX4_obeysNameRules 58 = .ok (.ireturn, 1) := by decide +kernel
theorem dX4_isFieldNameFree_0 : decode cX4_isFieldNameFree 0 = .ok (.iload_n 1, 1) := by decide +kernel
theorem dX4_isFieldNameFree_1 : decode cX4_isFieldNameFree 1 = .ok (.iload_n 2, 1) := by decide +kernel
theorem dX4_isFieldNameFree_2 : decode cX4_isFieldNameFree 2 = .ok (.invokestatic 58, 3) := by decide +kernel
theorem dX4_isFieldNameFree_5 : decode cX4_isFieldNameFree 5 = .ok (.istore_n 3, 1) := by decide +kernel
theorem dX4_isFieldNameFree_6 : decode cX4_isFieldNameFree 6 = .ok (.aload_n 0, 1) := by decide +kernel
theorem dX4_isFieldNameFree_7 : decode cX4_isFieldNameFree 7 = .ok (.iload_n 3, 1) := by decide +kernel
theorem dX4_isFieldNameFree_8 : decode cX4_isFieldNameFree 8 = .ok (.ldc 90, 2) := by decide +kernel
theorem dX4_isFieldNameFree_10 : decode cX4_isFieldNameFree 10 = .ok (.invokevirtual 92, 3) := by decide +kernel
theorem dX4_isFieldNameFree_13 : decode cX4_isFieldNameFree 13 = .ok (.ifCond .ne 13, 3) := by decide +kernel
theorem dX4_isFieldNameFree_16 : decode cX4_isFieldNameFree 16 = .ok (.aload_n 0, 1) := by decide +kernel
theorem dX4_isFieldNameFree_17 : decode cX4_isFieldNameFree 17 = .ok (.iload_n 3, 1) := by decide +kernel
theorem dX4_isFieldNameFree_18 : decode cX4_isFieldNameFree 18 = .ok (.ldc 96, 2) := by decide +kernel
theorem dX4_isFieldNameFree_20 : decode cX4_isFieldNameFree 20 = .ok (.invokevirtual 92, 3) := by decide +kernel
theorem dX4_isFieldNameFree_23 : decode cX4_isFieldNameFree 23 = .ok (.ifCond .eq 5, 3) := by decide +kernel
theorem dX4_isFieldNameFree_26 : decode cX4_isFieldNameFree 26 = .ok (.iconst 0, 1) := by decide +kernel
theorem dX4_isFieldNameFree_27 : decode cX4_isFieldNameFree 27 = .ok (.ireturn, 1) := by decide +kernel
theorem dX4_isFieldNameFree_28 : decode cX4_isFieldNameFree 28 = .ok (.aload_n 0, 1) := by decide +kernel
theorem dX4_isFieldNameFree_29 : decode cX4_isFieldNameFree 29 = .ok (.iload_n 3, 1) := by decide +kernel
theorem dX4_isFieldNameFree_30 : decode cX4_isFieldNameFree 30 = .ok (.iload_n 1, 1) := by decide +kernel
theorem dX4_isFieldNameFree_31 : decode cX4_isFieldNameFree 31 = .ok (.iconst 0, 1) := by decide +kernel
theorem dX4_isFieldNameFree_32 : decode cX4_isFieldNameFree 32 = .ok (.invokestatic 58, 3) := by decide +kernel
theorem dX4_isFieldNameFree_35 : decode cX4_isFieldNameFree 35 = .ok (.iload_n 3, 1) := by decide +kernel
theorem dX4_isFieldNameFree_36 : decode cX4_isFieldNameFree 36 = .ok (.invokevirtual 83, 3) := by decide +kernel
theorem dX4_isFieldNameFree_39 : decode cX4_isFieldNameFree 39 = .ok (.ifCond .eq 5, 3) := by decide +kernel
theorem dX4_isFieldNameFree_42 : decode cX4_isFieldNameFree 42 = .ok (.iconst 0, 1) := by decide +kernel
theorem dX4_isFieldNameFree_43 : decode cX4_isFieldNameFree 43 = .ok (.ireturn, 1) := by decide +kernel
theorem dX4_isFieldNameFree_44 : decode cX4_isFieldNameFree 44 = .ok (.aload_n 0, 1) := by decide +kernel
theorem dX4_isFieldNameFree_45 : decode cX4_isFieldNameFree 45 = .ok (.getfield 29, 3) := by decide +kernel
theorem dX4_isFieldNameFree_48 : decode cX4_isFieldNameFree 48 = .ok (.iload_n 1, 1) := by decide +kernel
theorem dX4_isFieldNameFree_49 : decode cX4_isFieldNameFree 49 = .ok (.iaload, 1) := by decide +kernel
theorem dX4_isFieldNameFree_50 : decode cX4_isFieldNameFree 50 = .ok (.iconst (-1), 1) := by decide +kernel
theorem dX4_isFieldNameFree_51 : decode cX4_isFieldNameFree 51 = .ok (.if_icmp .eq 16, 3) := by decide +kernel
theorem dX4_isFieldNameFree_54 : decode cX4_isFieldNameFree 54 = .ok (.aload_n 0, 1) := by decide +kernel
theorem dX4_isFieldNameFree_55 : decode cX4_isFieldNameFree 55 = .ok (.iload_n 3, 1) := by decide +kernel
theorem dX4_isFieldNameFree_56 : decode cX4_isFieldNameFree 56 = .ok (.iconst 0, 1) := by decide +kernel
theorem dX4_isFieldNameFree_57 : decode cX4_isFieldNameFree 57 = .ok (.aload_n 0, 1) := by decide +kernel
theorem dX4_isFieldNameFree_58 : decode cX4_isFieldNameFree 58 = .ok (.getfield 38, 3) := by decide +kernel
theorem dX4_isFieldNameFree_61 : decode cX4_isFieldNameFree 61 = .ok (.invokevirtual 83, 3) := by decide +kernel
theorem dX4_isFieldNameFree_64 : decode cX4_isFieldNameFree 64 = .ok (.ifCond .ne 7, 3) := by decide +kernel
theorem dX4_isFieldNameFree_67 : decode cX4_isFieldNameFree 67 = .ok (.iconst 1, 1) := by decide +kernel
theorem dX4_isFieldNameFree_68 : decode cX4_isFieldNameFree 68 = .ok (.goto 4, 3) := by decide +kernel
theorem dX4_isFieldNameFree_71 : decode cX4_isFieldNameFree 71 = .ok (.iconst 0, 1) := by decide +kernel
theorem dX4_isFieldNameFree_72 : decode cX4_isFieldNameFree 72 = .ok (.ireturn, 1) := by decide +kernel
theorem dX4_hasTwin_0 : decode cX4_hasTwin 0 = .ok (.iload_n 2, 1) := by decide +kernel
theorem dX4_hasTwin_1 : decode cX4_hasTwin 1 = .ok (.istore 4, 2) := by decide +kernel
theorem dX4_hasTwin_3 : decode cX4_hasTwin 3 = .ok (.iload 4, 2) := by decide +kernel
theorem dX4_hasTwin_5 : decode cX4_hasTwin 5 = .ok (.iload_n 3, 1) := by decide +kernel
theorem dX4_hasTwin_6 : decode cX4_hasTwin 6 = .ok (.if_icmp .ge 21, 3) := by decide +kernel
theorem dX4_hasTwin_9 : decode cX4_hasTwin 9 = .ok (.aload_n 0, 1) := by decide +kernel
theorem dX4_hasTwin_10 : decode cX4_hasTwin 10 = .ok (.iload_n 1, 1) := by decide +kernel
theorem dX4_hasTwin_11 : decode cX4_hasTwin 11 = .ok (.iload 4, 2) := by decide +kernel
theorem dX4_hasTwin_13 : decode cX4_hasTwin 13 = .ok (.invokevirtual 98, 3) := by decide +kernel
theorem dX4_hasTwin_16 : decode cX4_hasTwin 16 = .ok (.ifCond .eq 5, 3) := by decide +kernel
theorem dX4_hasTwin_19 : decode cX4_hasTwin 19 = .ok (.iconst 1, 1) := by decide +kernel
theorem dX4_hasTwin_20 : decode cX4_hasTwin 20 = .ok (.ireturn, 1) := by decide +kernel
theorem dX4_hasTwin_21 : decode cX4_hasTwin 21 = .ok (.iinc 4 1, 3) := by decide +kernel
theorem dX4_hasTwin_24 : decode cX4_hasTwin 24 = .ok (.goto (-21), 3) := by decide +kernel
theorem dX4_hasTwin_27 : decode cX4_hasTwin 27 = .ok (.iconst 0, 1) := by decide +kernel
theorem dX4_hasTwin_28 : decode cX4_hasTwin 28 = .ok (.ireturn, 1) := by decide +kernel
theorem dX4_isTwin_0 : decode cX4_isTwin 0 = .ok (.iload_n 1, 1) := by decide +kernel
theorem dX4_isTwin_1 : decode cX4_isTwin 1 = .ok (.ifCond .lt 34, 3) := by decide +kernel
theorem dX4_isTwin_4 : decode cX4_isTwin 4 = .ok (.iload_n 2, 1) := by decide +kernel
theorem dX4_isTwin_5 : decode cX4_isTwin 5 = .ok (.ifCond .lt 30, 3) := by decide +kernel
theorem dX4_isTwin_8 : decode cX4_isTwin 8 = .ok (.iload_n 1, 1) := by decide +kernel
theorem dX4_isTwin_9 : decode cX4_isTwin 9 = .ok (.bipush 30, 2) := by decide +kernel
theorem dX4_isTwin_11 : decode cX4_isTwin 11 = .ok (.if_icmp .ge 24, 3) := by decide +kernel
theorem dX4_isTwin_14 : decode cX4_isTwin 14 = .ok (.iload_n 2, 1) := by decide +kernel
theorem dX4_isTwin_15 : decode cX4_isTwin 15 = .ok (.bipush 30, 2) := by decide +kernel
theorem dX4_isTwin_17 : decode cX4_isTwin 17 = .ok (.if_icmp .ge 18, 3) := by decide +kernel
theorem dX4_isTwin_20 : decode cX4_isTwin 20 = .ok (.aload_n 0, 1) := by decide +kernel
theorem dX4_isTwin_21 : decode cX4_isTwin 21 = .ok (.getfield 15, 3) := by decide +kernel
theorem dX4_isTwin_24 : decode cX4_isTwin 24 = .ok (.iload_n 1, 1) := by decide +kernel
theorem dX4_isTwin_25 : decode cX4_isTwin 25 = .ok (.iaload, 1) := by decide +kernel
theorem dX4_isTwin_26 : decode cX4_isTwin 26 = .ok (.aload_n 0, 1) := by decide +kernel
theorem dX4_isTwin_27 : decode cX4_isTwin 27 = .ok (.getfield 15, 3) := by decide +kernel
theorem dX4_isTwin_30 : decode cX4_isTwin 30 = .ok (.iload_n 2, 1) := by decide +kernel
theorem dX4_isTwin_31 : decode cX4_isTwin 31 = .ok (.iaload, 1) := by decide +kernel
theorem dX4_isTwin_32 : decode cX4_isTwin 32 = .ok (.if_icmp .eq 5, 3) := by decide +kernel
theorem dX4_isTwin_35 : decode cX4_isTwin 35 = .ok (.iconst 0, 1) := by decide +kernel
theorem dX4_isTwin_36 : decode cX4_isTwin 36 = .ok (.ireturn, 1) := by decide +kernel
theorem dX4_isTwin_37 : decode cX4_isTwin 37 = .ok (.iconst 0, 1) := by decide +kernel
theorem dX4_isTwin_38 : decode cX4_isTwin 38 = .ok (.istore_n 3, 1) := by decide +kernel
theorem dX4_isTwin_39 : decode cX4_isTwin 39 = .ok (.iload_n 3, 1) := by decide +kernel
theorem dX4_isTwin_40 : decode cX4_isTwin 40 = .ok (.aload_n 0, 1) := by decide +kernel
theorem dX4_isTwin_41 : decode cX4_isTwin 41 = .ok (.getfield 15, 3) := by decide +kernel
theorem dX4_isTwin_44 : decode cX4_isTwin 44 = .ok (.iload_n 1, 1) := by decide +kernel
theorem dX4_isTwin_45 : decode cX4_isTwin 45 = .ok (.iaload, 1) := by decide +kernel
theorem dX4_isTwin_46 : decode cX4_isTwin 46 = .ok (.if_icmp .ge 36, 3) := by decide +kernel
theorem dX4_isTwin_49 : decode cX4_isTwin 49 = .ok (.aload_n 0, 1) := by decide +kernel
theorem dX4_isTwin_50 : decode cX4_isTwin 50 = .ok (.getfield 11, 3) := by decide +kernel
theorem dX4_isTwin_53 : decode cX4_isTwin 53 = .ok (.iload_n 1, 1) := by decide +kernel
theorem dX4_isTwin_54 : decode cX4_isTwin 54 = .ok (.bipush 16, 2) := by decide +kernel
theorem dX4_isTwin_56 : decode cX4_isTwin 56 = .ok (.imul, 1) := by decide +kernel
theorem dX4_isTwin_57 : decode cX4_isTwin 57 = .ok (.iload_n 3, 1) := by decide +kernel
theorem dX4_isTwin_58 : decode cX4_isTwin 58 = .ok (.iadd, 1) := by decide +kernel
theorem dX4_isTwin_59 : decode cX4_isTwin 59 = .ok (.caload, 1) := by decide +kernel
theorem dX4_isTwin_60 : decode cX4_isTwin 60 = .ok (.aload_n 0, 1) := by decide +kernel
theorem dX4_isTwin_61 : decode cX4_isTwin 61 = .ok (.getfield 11, 3) := by decide +kernel
theorem dX4_isTwin_64 : decode cX4_isTwin 64 = .ok (.iload_n 2, 1) := by decide +kernel
theorem dX4_isTwin_65 : decode cX4_isTwin 65 = .ok (.bipush 16, 2) := by decide +kernel
theorem dX4_isTwin_67 : decode cX4_isTwin 67 = .ok (.imul, 1) := by decide +kernel
theorem dX4_isTwin_68 : decode cX4_isTwin 68 = .ok (.iload_n 3, 1) := by decide +kernel
theorem dX4_isTwin_69 : decode cX4_isTwin 69 = .ok (.iadd, 1) := by decide +kernel
theorem dX4_isTwin_70 : decode cX4_isTwin 70 = .ok (.caload, 1) := by decide +kernel
theorem dX4_isTwin_71 : decode cX4_isTwin 71 = .ok (.if_icmp .eq 5, 3) := by decide +kernel
theorem dX4_isTwin_74 : decode cX4_isTwin 74 = .ok (.iconst 0, 1) := by decide +kernel
theorem dX4_isTwin_75 : decode cX4_isTwin 75 = .ok (.ireturn, 1) := by decide +kernel
theorem dX4_isTwin_76 : decode cX4_isTwin 76 = .ok (.iinc 3 1, 3) := by decide +kernel
theorem dX4_isTwin_79 : decode cX4_isTwin 79 = .ok (.goto (-40), 3) := by decide +kernel
theorem dX4_isTwin_82 : decode cX4_isTwin 82 = .ok (.iconst 1, 1) := by decide +kernel
theorem dX4_isTwin_83 : decode cX4_isTwin 83 = .ok (.ireturn, 1) := by decide +kernel
theorem dX4_isWord_0 : decode cX4_isWord 0 = .ok (.iload_n 1, 1) := by decide +kernel
theorem dX4_isWord_1 : decode cX4_isWord 1 = .ok (.ifCond .lt 22, 3) := by decide +kernel
theorem dX4_isWord_4 : decode cX4_isWord 4 = .ok (.iload_n 1, 1) := by decide +kernel
theorem dX4_isWord_5 : decode cX4_isWord 5 = .ok (.bipush 30, 2) := by decide +kernel
theorem dX4_isWord_7 : decode cX4_isWord 7 = .ok (.if_icmp .ge 16, 3) := by decide +kernel
theorem dX4_isWord_10 : decode cX4_isWord 10 = .ok (.aload_n 0, 1) := by decide +kernel
theorem dX4_isWord_11 : decode cX4_isWord 11 = .ok (.getfield 15, 3) := by decide +kernel
theorem dX4_isWord_14 : decode cX4_isWord 14 = .ok (.iload_n 1, 1) := by decide +kernel
theorem dX4_isWord_15 : decode cX4_isWord 15 = .ok (.iaload, 1) := by decide +kernel
theorem dX4_isWord_16 : decode cX4_isWord 16 = .ok (.aload_n 2, 1) := by decide +kernel
theorem dX4_isWord_17 : decode cX4_isWord 17 = .ok (.invokevirtual 101, 3) := by decide +kernel
theorem dX4_isWord_20 : decode cX4_isWord 20 = .ok (.if_icmp .eq 5, 3) := by decide +kernel
theorem dX4_isWord_23 : decode cX4_isWord 23 = .ok (.iconst 0, 1) := by decide +kernel
theorem dX4_isWord_24 : decode cX4_isWord 24 = .ok (.ireturn, 1) := by decide +kernel
theorem dX4_isWord_25 : decode cX4_isWord 25 = .ok (.iconst 0, 1) := by decide +kernel
theorem dX4_isWord_26 : decode cX4_isWord 26 = .ok (.istore_n 3, 1) := by decide +kernel
theorem dX4_isWord_27 : decode cX4_isWord 27 = .ok (.iload_n 3, 1) := by decide +kernel
theorem dX4_isWord_28 : decode cX4_isWord 28 = .ok (.aload_n 0, 1) := by decide +kernel
theorem dX4_isWord_29 : decode cX4_isWord 29 = .ok (.getfield 15, 3) := by decide +kernel
theorem dX4_isWord_32 : decode cX4_isWord 32 = .ok (.iload_n 1, 1) := by decide +kernel
theorem dX4_isWord_33 : decode cX4_isWord 33 = .ok (.iaload, 1) := by decide +kernel
theorem dX4_isWord_34 : decode cX4_isWord 34 = .ok (.if_icmp .ge 30, 3) := by decide +kernel
theorem dX4_isWord_37 : decode cX4_isWord 37 = .ok (.aload_n 0, 1) := by decide +kernel
theorem dX4_isWord_38 : decode cX4_isWord 38 = .ok (.getfield 11, 3) := by decide +kernel
theorem dX4_isWord_41 : decode cX4_isWord 41 = .ok (.iload_n 1, 1) := by decide +kernel
theorem dX4_isWord_42 : decode cX4_isWord 42 = .ok (.bipush 16, 2) := by decide +kernel
theorem dX4_isWord_44 : decode cX4_isWord 44 = .ok (.imul, 1) := by decide +kernel
theorem dX4_isWord_45 : decode cX4_isWord 45 = .ok (.iload_n 3, 1) := by decide +kernel
theorem dX4_isWord_46 : decode cX4_isWord 46 = .ok (.iadd, 1) := by decide +kernel
theorem dX4_isWord_47 : decode cX4_isWord 47 = .ok (.caload, 1) := by decide +kernel
theorem dX4_isWord_48 : decode cX4_isWord 48 = .ok (.aload_n 2, 1) := by decide +kernel
theorem dX4_isWord_49 : decode cX4_isWord 49 = .ok (.iload_n 3, 1) := by decide +kernel
theorem dX4_isWord_50 : decode cX4_isWord 50 = .ok (.invokevirtual 107, 3) := by decide +kernel
theorem dX4_isWord_53 : decode cX4_isWord 53 = .ok (.if_icmp .eq 5, 3) := by decide +kernel
theorem dX4_isWord_56 : decode cX4_isWord 56 = .ok (.iconst 0, 1) := by decide +kernel
theorem dX4_isWord_57 : decode cX4_isWord 57 = .ok (.ireturn, 1) := by decide +kernel
theorem dX4_isWord_58 : decode cX4_isWord 58 = .ok (.iinc 3 1, 3) := by decide +kernel
theorem dX4_isWord_61 : decode cX4_isWord 61 = .ok (.goto (-34), 3) := by decide +kernel
theorem dX4_isWord_64 : decode cX4_isWord 64 = .ok (.iconst 1, 1) := by decide +kernel
theorem dX4_isWord_65 : decode cX4_isWord 65 = .ok (.ireturn, 1) := by decide +kernel
theorem dX5_init_0 : decode cX5_init 0 = .ok (.aload_n 0, 1) := by decide +kernel
theorem dX5_init_1 : decode cX5_init 1 = .ok (.invokespecial 3, 3) := by decide +kernel
theorem dX5_init_4 : decode cX5_init 4 = .ok (.aload_n 0, 1) := by decide +kernel
theorem dX5_init_5 : decode cX5_init 5 = .ok (.bipush 64, 2) := by decide +kernel
theorem dX5_init_7 : decode cX5_init 7 = .ok (.newarray .char, 2) := by decide +kernel
theorem dX5_init_9 : decode cX5_init 9 = .ok (.putfield 11, 3) := by decide +kernel
theorem dX5_init_12 : decode cX5_init 12 = .ok (.aload_n 0, 1) := by decide +kernel
theorem dX5_init_13 : decode cX5_init 13 = .ok (.iconst 0, 1) := by decide +kernel
theorem dX5_init_14 : decode cX5_init 14 = .ok (.putfield 15, 3) := by decide +kernel
theorem dX5_init_17 : decode cX5_init 17 = .ok (.aload_n 0, 1) := by decide +kernel
theorem dX5_init_18 : decode cX5_init 18 = .ok (.iconst 0, 1) := by decide +kernel
theorem dX5_init_19 : decode cX5_init 19 = .ok (.putfield 19, 3) := by decide +kernel
theorem dX5_init_22 : decode cX5_init 22 = .ok (.return_, 1) := by decide +kernel
theorem dX5_length_0 : decode cX5_length 0 = .ok (.aload_n 0, 1) := by decide +kernel
theorem dX5_length_1 : decode cX5_length 1 = .ok (.getfield 15, 3) := by decide +kernel
theorem dX5_length_4 : decode cX5_length 4 = .ok (.ireturn, 1) := by decide +kernel
theorem dX5_has_0 : decode cX5_has 0 = .ok (.iload_n 1, 1) := by decide +kernel
theorem dX5_has_1 : decode cX5_has 1 = .ok (.ifCond .lt 15, 3) := by decide +kernel
theorem dX5_has_4 : decode cX5_has 4 = .ok (.iload_n 1, 1) := by decide +kernel
theorem dX5_has_5 : decode cX5_has 5 = .ok (.aload_n 0, 1) := by decide +kernel
theorem dX5_has_6 : decode cX5_has 6 = .ok (.getfield 15, 3) := by decide +kernel
theorem dX5_has_9 : decode cX5_has 9 = .ok (.if_icmp .ge 7, 3) := by decide +kernel
theorem dX5_has_12 : decode cX5_has 12 = .ok (.iconst 1, 1) := by decide +kernel
theorem dX5_has_13 : decode cX5_has 13 = .ok (.goto 4, 3) := by decide +kernel
theorem dX5_has_16 : decode cX5_has 16 = .ok (.iconst 0, 1) := by decide +kernel
theorem dX5_has_17 : decode cX5_has 17 = .ok (.ireturn, 1) := by decide +kernel
theorem dX5_at_0 : decode cX5_at 0 = .ok (.iload_n 1, 1) := by decide +kernel
theorem dX5_at_1 : decode cX5_at 1 = .ok (.ifCond .lt 20, 3) := by decide +kernel
theorem dX5_at_4 : decode cX5_at 4 = .ok (.iload_n 1, 1) := by decide +kernel
theorem dX5_at_5 : decode cX5_at 5 = .ok (.aload_n 0, 1) := by decide +kernel
theorem dX5_at_6 : decode cX5_at 6 = .ok (.getfield 15, 3) := by decide +kernel
theorem dX5_at_9 : decode cX5_at 9 = .ok (.if_icmp .ge 12, 3) := by decide +kernel
theorem dX5_at_12 : decode cX5_at 12 = .ok (.aload_n 0, 1) := by decide +kernel
theorem dX5_at_13 : decode cX5_at 13 = .ok (.getfield 11, 3) := by decide +kernel
theorem dX5_at_16 : decode cX5_at 16 = .ok (.iload_n 1, 1) := by decide +kernel
theorem dX5_at_17 : decode cX5_at 17 = .ok (.caload, 1) := by decide +kernel
theorem dX5_at_18 : decode cX5_at 18 = .ok (.goto 4, 3) := by decide +kernel
theorem dX5_at_21 : decode cX5_at 21 = .ok (.iconst (-1), 1) := by decide +kernel
theorem dX5_at_22 : decode cX5_at 22 = .ok (.ireturn, 1) := by decide +kernel
theorem dX5_hasOverflowed_0 : decode cX5_hasOverflowed 0 = .ok (.aload_n 0, 1) := by decide +kernel
theorem dX5_hasOverflowed_1 : decode cX5_hasOverflowed 1 = .ok (.getfield 19, 3) := by decide +kernel
theorem dX5_hasOverflowed_4 : decode cX5_hasOverflowed 4 = .ok (.ireturn, 1) := by decide +kernel
theorem dX5_clear_0 : decode cX5_clear 0 = .ok (.aload_n 0, 1) := by decide +kernel
theorem dX5_clear_1 : decode cX5_clear 1 = .ok (.iconst 0, 1) := by decide +kernel
theorem dX5_clear_2 : decode cX5_clear 2 = .ok (.putfield 15, 3) := by decide +kernel
theorem dX5_clear_5 : decode cX5_clear 5 = .ok (.aload_n 0, 1) := by decide +kernel
theorem dX5_clear_6 : decode cX5_clear 6 = .ok (.iconst 0, 1) := by decide +kernel
theorem dX5_clear_7 : decode cX5_clear 7 = .ok (.putfield 19, 3) := by decide +kernel
theorem dX5_clear_10 : decode cX5_clear 10 = .ok (.return_, 1) := by decide +kernel
theorem dX5_put_0 : decode cX5_put 0 = .ok (.aload_n 0, 1) := by decide +kernel
theorem dX5_put_1 : decode cX5_put 1 = .ok (.getfield 15, 3) := by decide +kernel
theorem dX5_put_4 : decode cX5_put 4 = .ok (.sipush 3000, 3) := by decide +kernel
theorem dX5_put_7 : decode cX5_put 7 = .ok (.if_icmp .lt 10, 3) := by decide +kernel
theorem dX5_put_10 : decode cX5_put 10 = .ok (.aload_n 0, 1) := by decide +kernel
theorem dX5_put_11 : decode cX5_put 11 = .ok (.iconst 1, 1) := by decide +kernel
theorem dX5_put_12 : decode cX5_put 12 = .ok (.putfield 19, 3) := by decide +kernel
theorem dX5_put_15 : decode cX5_put 15 = .ok (.iconst 0, 1) := by decide +kernel
theorem dX5_put_16 : decode cX5_put 16 = .ok (.ireturn, 1) := by decide +kernel
theorem dX5_put_17 : decode cX5_put 17 = .ok (.aload_n 0, 1) := by decide +kernel
theorem dX5_put_18 : decode cX5_put 18 = .ok (.getfield 15, 3) := by decide +kernel
theorem dX5_put_21 : decode cX5_put 21 = .ok (.aload_n 0, 1) := by decide +kernel
theorem dX5_put_22 : decode cX5_put 22 = .ok (.getfield 11, 3) := by decide +kernel
theorem dX5_put_25 : decode cX5_put 25 = .ok (.arraylength, 1) := by decide +kernel
theorem dX5_put_26 : decode cX5_put 26 = .ok (.if_icmp .lt 38, 3) := by decide +kernel
theorem dX5_put_29 : decode cX5_put 29 = .ok (.sipush 3000, 3) := by decide +kernel
theorem dX5_put_32 : decode cX5_put 32 = .ok (.iconst 2, 1) := by decide +kernel
theorem dX5_put_33 : decode cX5_put 33 = .ok (.aload_n 0, 1) := by decide +kernel
theorem dX5_put_34 : decode cX5_put 34 = .ok (.getfield 11, 3) := by decide +kernel
theorem dX5_put_37 : decode cX5_put 37 = .ok (.arraylength, 1) := by decide +kernel
theorem dX5_put_38 : decode cX5_put 38 = .ok (.imul, 1) := by decide +kernel
theorem dX5_put_39 : decode cX5_put 39 = .ok (.invokestatic 23, 3) := by decide +kernel
theorem dX5_put_42 : decode cX5_put 42 = .ok (.newarray .char, 2) := by decide +kernel
theorem dX5_put_44 : decode cX5_put 44 = .ok (.astore_n 2, 1) := by decide +kernel
theorem dX5_put_45 : decode cX5_put 45 = .ok (.aload_n 0, 1) := by decide +kernel
theorem dX5_put_46 : decode cX5_put 46 = .ok (.getfield 11, 3) := by decide +kernel
theorem dX5_put_49 : decode cX5_put 49 = .ok (.iconst 0, 1) := by decide +kernel
theorem dX5_put_50 : decode cX5_put 50 = .ok (.aload_n 2, 1) := by decide +kernel
theorem dX5_put_51 : decode cX5_put 51 = .ok (.iconst 0, 1) := by decide +kernel
theorem dX5_put_52 : decode cX5_put 52 = .ok (.aload_n 0, 1) := by decide +kernel
theorem dX5_put_53 : decode cX5_put 53 = .ok (.getfield 15, 3) := by decide +kernel
theorem dX5_put_56 : decode cX5_put 56 = .ok (.invokestatic 29, 3) := by decide +kernel
theorem dX5_put_59 : decode cX5_put 59 = .ok (.aload_n 0, 1) := by decide +kernel
theorem dX5_put_60 : decode cX5_put 60 = .ok (.aload_n 2, 1) := by decide +kernel
theorem dX5_put_61 : decode cX5_put 61 = .ok (.putfield 11, 3) := by decide +kernel
theorem dX5_put_64 : decode cX5_put 64 = .ok (.aload_n 0, 1) := by decide +kernel
theorem dX5_put_65 : decode cX5_put 65 = .ok (.getfield 11, 3) := by decide +kernel
theorem dX5_put_68 : decode cX5_put 68 = .ok (.aload_n 0, 1) := by decide +kernel
theorem dX5_put_69 : decode cX5_put 69 = .ok (.getfield 15, 3) := by decide +kernel
theorem dX5_put_72 : decode cX5_put 72 = .ok (.iload_n 1, 1) := by decide +kernel
theorem dX5_put_73 : decode cX5_put 73 = .ok (.i2c, 1) := by decide +kernel
theorem dX5_put_74 : decode cX5_put 74 = .ok (.castore, 1) := by decide +kernel
theorem dX5_put_75 : decode cX5_put 75 = .ok (.aload_n 0, 1) := by decide +kernel
theorem dX5_put_76 : decode cX5_put 76 = .ok (.dup, 1) := by decide +kernel
theorem dX5_put_77 : decode cX5_put 77 = .ok (.getfield 15, 3) := by decide +kernel
theorem dX5_put_80 : decode cX5_put 80 = .ok (.iconst 1, 1) := by decide +kernel
theorem dX5_put_81 : decode cX5_put 81 = .ok (.iadd, 1) := by decide +kernel
theorem dX5_put_82 : decode cX5_put 82 = .ok (.putfield 15, 3) := by decide +kernel
theorem dX5_put_85 : decode cX5_put 85 = .ok (.iconst 1, 1) := by decide +kernel
theorem dX5_put_86 : decode cX5_put 86 = .ok (.ireturn, 1) := by decide +kernel
theorem dX5_spell_0 : decode cX5_spell 0 = .ok (.iconst 0, 1) := by decide +kernel
theorem dX5_spell_1 : decode cX5_spell 1 = .ok (.istore_n 2, 1) := by decide +kernel
theorem dX5_spell_2 : decode cX5_spell 2 = .ok (.iload_n 2, 1) := by decide +kernel
theorem dX5_spell_3 : decode cX5_spell 3 = .ok (.aload_n 1, 1) := by decide +kernel
theorem dX5_spell_4 : decode cX5_spell 4 = .ok (.invokevirtual 35, 3) := by decide +kernel
theorem dX5_spell_7 : decode cX5_spell 7 = .ok (.if_icmp .ge 19, 3) := by decide +kernel
theorem dX5_spell_10 : decode cX5_spell 10 = .ok (.aload_n 0, 1) := by decide +kernel
theorem dX5_spell_11 : decode cX5_spell 11 = .ok (.aload_n 1, 1) := by decide +kernel
theorem dX5_spell_12 : decode cX5_spell 12 = .ok (.iload_n 2, 1) := by decide +kernel
theorem dX5_spell_13 : decode cX5_spell 13 = .ok (.invokevirtual 40, 3) := by decide +kernel
theorem dX5_spell_16 : decode cX5_spell 16 = .ok (.invokevirtual 44, 3) := by decide +kernel
theorem dX5_spell_19 : decode cX5_spell 19 = .ok (.pop, 1) := by decide +kernel
theorem dX5_spell_20 : decode cX5_spell 20 = .ok (.iinc 2 1, 3) := by decide +kernel
theorem dX5_spell_23 : decode cX5_spell 23 = .ok (.goto (-21), 3) := by decide +kernel
theorem dX5_spell_26 : decode cX5_spell 26 = .ok (.return_, 1) := by decide +kernel
theorem dX5_become_0 : decode cX5_become 0 = .ok (.aload_n 0, 1) := by decide +kernel
theorem dX5_become_1 : decode cX5_become 1 = .ok (.invokevirtual 48, 3) := by decide +kernel
theorem dX5_become_4 : decode cX5_become 4 = .ok (.iconst 0, 1) := by decide +kernel
theorem dX5_become_5 : decode cX5_become 5 = .ok (.istore_n 2, 1) := by decide +kernel
theorem dX5_become_6 : decode cX5_become 6 = .ok (.iload_n 2, 1) := by decide +kernel
theorem dX5_become_7 : decode cX5_become 7 = .ok (.aload_n 1, 1) := by decide +kernel
theorem dX5_become_8 : decode cX5_become 8 = .ok (.invokevirtual 51, 3) := by decide +kernel
theorem dX5_become_11 : decode cX5_become 11 = .ok (.if_icmp .ge 19, 3) := by decide +kernel
theorem dX5_become_14 : decode cX5_become 14 = .ok (.aload_n 0, 1) := by decide +kernel
theorem dX5_become_15 : decode cX5_become 15 = .ok (.aload_n 1, 1) := by decide +kernel
theorem dX5_become_16 : decode cX5_become 16 = .ok (.iload_n 2, 1) := by decide +kernel
theorem dX5_become_17 : decode cX5_become 17 = .ok (.invokevirtual 52, 3) := by decide +kernel
theorem dX5_become_20 : decode cX5_become 20 = .ok (.invokevirtual 44, 3) := by decide +kernel
theorem dX5_become_23 : decode cX5_become 23 = .ok (.pop, 1) := by decide +kernel
theorem dX5_become_24 : decode cX5_become 24 = .ok (.iinc 2 1, 3) := by decide +kernel
theorem dX5_become_27 : decode cX5_become 27 = .ok (.goto (-21), 3) := by decide +kernel
theorem dX5_become_30 : decode cX5_become 30 = .ok (.return_, 1) := by decide +kernel
theorem dX5_isAt_0 : decode cX5_isAt 0 = .ok (.iload_n 2, 1) := by decide +kernel
theorem dX5_isAt_1 : decode cX5_isAt 1 = .ok (.iload_n 1, 1) := by decide +kernel
theorem dX5_isAt_2 : decode cX5_isAt 2 = .ok (.isub, 1) := by decide +kernel
theorem dX5_isAt_3 : decode cX5_isAt 3 = .ok (.aload_n 3, 1) := by decide +kernel
theorem dX5_isAt_4 : decode cX5_isAt 4 = .ok (.invokevirtual 35, 3) := by decide +kernel
theorem dX5_isAt_7 : decode cX5_isAt 7 = .ok (.if_icmp .eq 5, 3) := by decide +kernel
theorem dX5_isAt_10 : decode cX5_isAt 10 = .ok (.iconst 0, 1) := by decide +kernel
theorem dX5_isAt_11 : decode cX5_isAt 11 = .ok (.ireturn, 1) := by decide +kernel
theorem dX5_isAt_12 : decode cX5_isAt 12 = .ok (.iconst 0, 1) := by decide +kernel
theorem dX5_isAt_13 : decode cX5_isAt 13 = .ok (.istore 4, 2) := by decide +kernel
theorem dX5_isAt_15 : decode cX5_isAt 15 = .ok (.iload 4, 2) := by decide +kernel
theorem dX5_isAt_17 : decode cX5_isAt 17 = .ok (.aload_n 3, 1) := by decide +kernel
theorem dX5_isAt_18 : decode cX5_isAt 18 = .ok (.invokevirtual 35, 3) := by decide +kernel
theorem dX5_isAt_21 : decode cX5_isAt 21 = .ok (.if_icmp .ge 28, 3) := by decide +kernel
theorem dX5_isAt_24 : decode cX5_isAt 24 = .ok (.aload_n 0, 1) := by decide +kernel
theorem dX5_isAt_25 : decode cX5_isAt 25 = .ok (.iload_n 1, 1) := by decide +kernel
theorem dX5_isAt_26 : decode cX5_isAt 26 = .ok (.iload 4, 2) := by decide +kernel
theorem dX5_isAt_28 : decode cX5_isAt 28 = .ok (.iadd, 1) := by decide +kernel
theorem dX5_isAt_29 : decode cX5_isAt 29 = .ok (.invokevirtual 52, 3) := by decide +kernel
theorem dX5_isAt_32 : decode cX5_isAt 32 = .ok (.aload_n 3, 1) := by decide +kernel
theorem dX5_isAt_33 : decode cX5_isAt 33 = .ok (.iload 4, 2) := by decide +kernel
theorem dX5_isAt_35 : decode cX5_isAt 35 = .ok (.invokevirtual 40, 3) := by decide +kernel
theorem dX5_isAt_38 : decode cX5_isAt 38 = .ok (.if_icmp .eq 5, 3) := by decide +kernel
theorem dX5_isAt_41 : decode cX5_isAt 41 = .ok (.iconst 0, 1) := by decide +kernel
theorem dX5_isAt_42 : decode cX5_isAt 42 = .ok (.ireturn, 1) := by decide +kernel
theorem dX5_isAt_43 : decode cX5_isAt 43 = .ok (.iinc 4 1, 3) := by decide +kernel
theorem dX5_isAt_46 : decode cX5_isAt 46 = .ok (.goto (-31), 3) := by decide +kernel
theorem dX5_isAt_49 : decode cX5_isAt 49 = .ok (.iconst 1, 1) := by decide +kernel
theorem dX5_isAt_50 : decode cX5_isAt 50 = .ok (.ireturn, 1) := by decide +kernel
theorem dX6_init_0 : decode cX6_init 0 = .ok (.aload_n 0, 1) := by decide +kernel
theorem dX6_init_1 : decode cX6_init 1 = .ok (.invokespecial 3, 3) := by decide +kernel
theorem dX6_init_4 : decode cX6_init 4 = .ok (.aload_n 0, 1) := by decide +kernel
theorem dX6_init_5 : decode cX6_init 5 = .ok (.new 9, 3) := by decide +kernel
theorem dX6_init_8 : decode cX6_init 8 = .ok (.dup, 1) := by decide +kernel
theorem dX6_init_9 : decode cX6_init 9 = .ok (.invokespecial 11, 3) := by decide +kernel
theorem dX6_init_12 : decode cX6_init 12 = .ok (.putfield 12, 3) := by decide +kernel
theorem dX6_init_15 : decode cX6_init 15 = .ok (.aload_n 0, 1) := by decide +kernel
theorem dX6_init_16 : decode cX6_init 16 = .ok (.aload_n 0, 1) := by decide +kernel
theorem dX6_init_17 : decode cX6_init 17 = .ok (.getfield 12, 3) := by decide +kernel
theorem dX6_init_20 : decode cX6_init 20 = .ok (.putfield 18, 3) := by decide +kernel
theorem dX6_init_23 : decode cX6_init 23 = .ok (.aload_n 0, 1) := by decide +kernel
theorem dX6_init_24 : decode cX6_init 24 = .ok (.sipush 200, 3) := by decide +kernel
theorem dX6_init_27 : decode cX6_init 27 = .ok (.newarray .int, 2) := by decide +kernel
theorem dX6_init_29 : decode cX6_init 29 = .ok (.putfield 21, 3) := by decide +kernel
theorem dX6_init_32 : decode cX6_init 32 = .ok (.aload_n 0, 1) := by decide +kernel
theorem dX6_init_33 : decode cX6_init 33 = .ok (.sipush 200, 3) := by decide +kernel
theorem dX6_init_36 : decode cX6_init 36 = .ok (.newarray .int, 2) := by decide +kernel
theorem dX6_init_38 : decode cX6_init 38 = .ok (.putfield 25, 3) := by decide +kernel
theorem dX6_init_41 : decode cX6_init 41 = .ok (.aload_n 0, 1) := by decide +kernel
theorem dX6_init_42 : decode cX6_init 42 = .ok (.sipush 200, 3) := by decide +kernel
theorem dX6_init_45 : decode cX6_init 45 = .ok (.newarray .int, 2) := by decide +kernel
theorem dX6_init_47 : decode cX6_init 47 = .ok (.putfield 28, 3) := by decide +kernel
theorem dX6_init_50 : decode cX6_init 50 = .ok (.aload_n 0, 1) := by decide +kernel
theorem dX6_init_51 : decode cX6_init 51 = .ok (.sipush 200, 3) := by decide +kernel
theorem dX6_init_54 : decode cX6_init 54 = .ok (.newarray .int, 2) := by decide +kernel
theorem dX6_init_56 : decode cX6_init 56 = .ok (.putfield 31, 3) := by decide +kernel
theorem dX6_init_59 : decode cX6_init 59 = .ok (.aload_n 0, 1) := by decide +kernel
theorem dX6_init_60 : decode cX6_init 60 = .ok (.sipush 200, 3) := by decide +kernel
theorem dX6_init_63 : decode cX6_init 63 = .ok (.newarray .int, 2) := by decide +kernel
theorem dX6_init_65 : decode cX6_init 65 = .ok (.putfield 34, 3) := by decide +kernel
theorem dX6_init_68 : decode cX6_init 68 = .ok (.aload_n 0, 1) := by decide +kernel
theorem dX6_init_69 : decode cX6_init 69 = .ok (.sipush 200, 3) := by decide +kernel
theorem dX6_init_72 : decode cX6_init 72 = .ok (.newarray .int, 2) := by decide +kernel
theorem dX6_init_74 : decode cX6_init 74 = .ok (.putfield 37, 3) := by decide +kernel
theorem dX6_init_77 : decode cX6_init 77 = .ok (.aload_n 0, 1) := by decide +kernel
theorem dX6_init_78 : decode cX6_init 78 = .ok (.sipush 200, 3) := by decide +kernel
theorem dX6_init_81 : decode cX6_init 81 = .ok (.newarray .int, 2) := by decide +kernel
theorem dX6_init_83 : decode cX6_init 83 = .ok (.putfield 40, 3) := by decide +kernel
theorem dX6_init_86 : decode cX6_init 86 = .ok (.aload_n 0, 1) := by decide +kernel
theorem dX6_init_87 : decode cX6_init 87 = .ok (.sipush 200, 3) := by decide +kernel
theorem dX6_init_90 : decode cX6_init 90 = .ok (.newarray .int, 2) := by decide +kernel
theorem dX6_init_92 : decode cX6_init 92 = .ok (.putfield 43, 3) := by decide +kernel
theorem dX6_init_95 : decode cX6_init 95 = .ok (.aload_n 0, 1) := by decide +kernel
theorem dX6_init_96 : decode cX6_init 96 = .ok (.sipush 200, 3) := by decide +kernel
theorem dX6_init_99 : decode cX6_init 99 = .ok (.newarray .int, 2) := by decide +kernel
theorem dX6_init_101 : decode cX6_init 101 = .ok (.putfield 46, 3) := by decide +kernel
theorem dX6_init_104 : decode cX6_init 104 = .ok (.aload_n 0, 1) := by decide +kernel
theorem dX6_init_105 : decode cX6_init 105 = .ok (.sipush 200, 3) := by decide +kernel
theorem dX6_init_108 : decode cX6_init 108 = .ok (.newarray .boolean, 2) := by decide +kernel
theorem dX6_init_110 : decode cX6_init 110 = .ok (.putfield 49, 3) := by decide +kernel
theorem dX6_init_113 : decode cX6_init 113 = .ok (.aload_n 0, 1) := by decide +kernel
theorem dX6_init_114 : decode cX6_init 114 = .ok (.sipush 600, 3) := by decide +kernel
theorem dX6_init_117 : decode cX6_init 117 = .ok (.newarray .int, 2) := by decide +kernel
theorem dX6_init_119 : decode cX6_init 119 = .ok (.putfield 53, 3) := by decide +kernel
theorem dX6_init_122 : decode cX6_init 122 = .ok (.aload_n 0, 1) := by decide +kernel
theorem dX6_init_123 : decode cX6_init 123 = .ok (.sipush 600, 3) := by decide +kernel
theorem dX6_init_126 : decode cX6_init 126 = .ok (.newarray .int, 2) := by decide +kernel
theorem dX6_init_128 : decode cX6_init 128 = .ok (.putfield 56, 3) := by decide +kernel
theorem dX6_init_131 : decode cX6_init 131 = .ok (.aload_n 0, 1) := by decide +kernel
theorem dX6_init_132 : decode cX6_init 132 = .ok (.sipush 600, 3) := by decide +kernel
theorem dX6_init_135 : decode cX6_init 135 = .ok (.newarray .int, 2) := by decide +kernel
theorem dX6_init_137 : decode cX6_init 137 = .ok (.putfield 59, 3) := by decide +kernel
theorem dX6_init_140 : decode cX6_init 140 = .ok (.aload_n 0, 1) := by decide +kernel
theorem dX6_init_141 : decode cX6_init 141 = .ok (.sipush 600, 3) := by decide +kernel
theorem dX6_init_144 : decode cX6_init 144 = .ok (.newarray .int, 2) := by decide +kernel
theorem dX6_init_146 : decode cX6_init 146 = .ok (.putfield 62, 3) := by decide +kernel
theorem dX6_init_149 : decode cX6_init 149 = .ok (.aload_n 0, 1) := by decide +kernel
theorem dX6_init_150 : decode cX6_init 150 = .ok (.iconst 0, 1) := by decide +kernel
theorem dX6_init_151 : decode cX6_init 151 = .ok (.putfield 65, 3) := by decide +kernel
theorem dX6_init_154 : decode cX6_init 154 = .ok (.aload_n 0, 1) := by decide +kernel
theorem dX6_init_155 : decode cX6_init 155 = .ok (.iconst 0, 1) := by decide +kernel
theorem dX6_init_156 : decode cX6_init 156 = .ok (.putfield 69, 3) := by decide +kernel
theorem dX6_init_159 : decode cX6_init 159 = .ok (.return_, 1) := by decide +kernel
theorem dX6_restart_0 : decode cX6_restart 0 = .ok (.aload_n 0, 1) := by decide +kernel
theorem dX6_restart_1 : decode cX6_restart 1 = .ok (.aload_n 1, 1) := by decide +kernel
theorem dX6_restart_2 : decode cX6_restart 2 = .ok (.putfield 18, 3) := by decide +kernel
theorem dX6_restart_5 : decode cX6_restart 5 = .ok (.aload_n 0, 1) := by decide +kernel
theorem dX6_restart_6 : decode cX6_restart 6 = .ok (.getfield 12, 3) := by decide +kernel
theorem dX6_restart_9 : decode cX6_restart 9 = .ok (.invokevirtual 72, 3) := by decide +kernel
theorem dX6_restart_12 : decode cX6_restart 12 = .ok (.aload_n 0, 1) := by decide +kernel
theorem dX6_restart_13 : decode cX6_restart 13 = .ok (.iconst 0, 1) := by decide +kernel
theorem dX6_restart_14 : decode cX6_restart 14 = .ok (.putfield 65, 3) := by decide +kernel
theorem dX6_restart_17 : decode cX6_restart 17 = .ok (.aload_n 0, 1) := by decide +kernel
theorem dX6_restart_18 : decode cX6_restart 18 = .ok (.iconst 0, 1) := by decide +kernel
theorem dX6_restart_19 : decode cX6_restart 19 = .ok (.putfield 69, 3) := by decide +kernel
theorem dX6_restart_22 : decode cX6_restart 22 = .ok (.return_, 1) := by decide +kernel
theorem dX6_names_0 : decode cX6_names 0 = .ok (.aload_n 0, 1) := by decide +kernel
theorem dX6_names_1 : decode cX6_names 1 = .ok (.getfield 18, 3) := by decide +kernel
theorem dX6_names_4 : decode cX6_names 4 = .ok (.areturn, 1) := by decide +kernel
theorem dX6_values_0 : decode cX6_values 0 = .ok (.aload_n 0, 1) := by decide +kernel
theorem dX6_values_1 : decode cX6_values 1 = .ok (.getfield 12, 3) := by decide +kernel
theorem dX6_values_4 : decode cX6_values 4 = .ok (.areturn, 1) := by decide +kernel
theorem dX6_size_0 : decode cX6_size 0 = .ok (.aload_n 0, 1) := by decide +kernel
theorem dX6_size_1 : decode cX6_size 1 = .ok (.getfield 65, 3) := by decide +kernel
theorem dX6_size_4 : decode cX6_size 4 = .ok (.ireturn, 1) := by decide +kernel
theorem dX6_has_0 : decode cX6_has 0 = .ok (.iload_n 1, 1) := by decide +kernel
theorem dX6_has_1 : decode cX6_has 1 = .ok (.ifCond .lt 15, 3) := by decide +kernel
theorem dX6_has_4 : decode cX6_has 4 = .ok (.iload_n 1, 1) := by decide +kernel
theorem dX6_has_5 : decode cX6_has 5 = .ok (.aload_n 0, 1) := by decide +kernel
theorem dX6_has_6 : decode cX6_has 6 = .ok (.getfield 65, 3) := by decide +kernel
theorem dX6_has_9 : decode cX6_has 9 = .ok (.if_icmp .ge 7, 3) := by decide +kernel
theorem dX6_has_12 : decode cX6_has 12 = .ok (.iconst 1, 1) := by decide +kernel
theorem dX6_has_13 : decode cX6_has 13 = .ok (.goto 4, 3) := by decide +kernel
theorem dX6_has_16 : decode cX6_has 16 = .ok (.iconst 0, 1) := by decide +kernel
theorem dX6_has_17 : decode cX6_has 17 = .ok (.ireturn, 1) := by decide +kernel
theorem dX6_hasAttribute_0 : decode cX6_hasAttribute 0 = .ok (.iload_n 1, 1) := by decide +kernel
theorem dX6_hasAttribute_1 : decode cX6_hasAttribute 1 = .ok (.ifCond .lt 15, 3) := by decide +kernel
theorem dX6_hasAttribute_4 : decode cX6_hasAttribute 4 = .ok (.iload_n 1, 1) := by decide +kernel
theorem dX6_hasAttribute_5 : decode cX6_hasAttribute 5 = .ok (.aload_n 0, 1) := by decide +kernel
theorem dX6_hasAttribute_6 : decode cX6_hasAttribute 6 = .ok (.getfield 69, 3) := by decide +kernel
theorem dX6_hasAttribute_9 : decode cX6_hasAttribute 9 = .ok (.if_icmp .ge 7, 3) := by decide +kernel
theorem dX6_hasAttribute_12 : decode cX6_hasAttribute 12 = .ok (.iconst 1, 1) := by decide +kernel
theorem dX6_hasAttribute_13 : decode cX6_hasAttribute 13 = .ok (.goto 4, 3) := by decide +kernel
theorem dX6_hasAttribute_16 : decode cX6_hasAttribute 16 = .ok (.iconst 0, 1) := by decide +kernel
theorem dX6_hasAttribute_17 : decode cX6_hasAttribute 17 = .ok (.ireturn, 1) := by decide +kernel
theorem dX6_begin_0 : decode cX6_begin 0 = .ok (.aload_n 0, 1) := by decide +kernel
theorem dX6_begin_1 : decode cX6_begin 1 = .ok (.getfield 65, 3) := by decide +kernel
theorem dX6_begin_4 : decode cX6_begin 4 = .ok (.sipush 200, 3) := by decide +kernel
theorem dX6_begin_7 : decode cX6_begin 7 = .ok (.if_icmp .lt 5, 3) := by decide +kernel
theorem dX6_begin_10 : decode cX6_begin 10 = .ok (.iconst (-1), 1) := by decide +kernel
theorem dX6_begin_11 : decode cX6_begin 11 = .ok (.ireturn, 1) := by decide +kernel
theorem dX6_begin_12 : decode cX6_begin 12 = .ok (.aload_n 0, 1) := by decide +kernel
theorem dX6_begin_13 : decode cX6_begin 13 = .ok (.getfield 21, 3) := by decide +kernel
theorem dX6_begin_16 : decode cX6_begin 16 = .ok (.aload_n 0, 1) := by decide +kernel
theorem dX6_begin_17 : decode cX6_begin 17 = .ok (.getfield 65, 3) := by decide +kernel
theorem dX6_begin_20 : decode cX6_begin 20 = .ok (.iload_n 1, 1) := by decide +kernel
theorem dX6_begin_21 : decode cX6_begin 21 = .ok (.iastore, 1) := by decide +kernel
theorem dX6_begin_22 : decode cX6_begin 22 = .ok (.aload_n 0, 1) := by decide +kernel
theorem dX6_begin_23 : decode cX6_begin 23 = .ok (.getfield 25, 3) := by decide +kernel
theorem dX6_begin_26 : decode cX6_begin 26 = .ok (.aload_n 0, 1) := by decide +kernel
theorem dX6_begin_27 : decode cX6_begin 27 = .ok (.getfield 65, 3) := by decide +kernel
theorem dX6_begin_30 : decode cX6_begin 30 = .ok (.iload_n 1, 1) := by decide +kernel
theorem dX6_begin_31 : decode cX6_begin 31 = .ok (.iconst 1, 1) := by decide +kernel
theorem dX6_begin_32 : decode cX6_begin 32 = .ok (.iadd, 1) := by decide +kernel
theorem dX6_begin_33 : decode cX6_begin 33 = .ok (.iastore, 1) := by decide +kernel
theorem dX6_begin_34 : decode cX6_begin 34 = .ok (.aload_n 0, 1) := by decide +kernel
theorem dX6_begin_35 : decode cX6_begin 35 = .ok (.getfield 28, 3) := by decide +kernel
theorem dX6_begin_38 : decode cX6_begin 38 = .ok (.aload_n 0, 1) := by decide +kernel
theorem dX6_begin_39 : decode cX6_begin 39 = .ok (.getfield 65, 3) := by decide +kernel
theorem dX6_begin_42 : decode cX6_begin 42 = .ok (.iload_n 2, 1) := by decide +kernel
theorem dX6_begin_43 : decode cX6_begin 43 = .ok (.iastore, 1) := by decide +kernel
theorem dX6_begin_44 : decode cX6_begin 44 = .ok (.aload_n 0, 1) := by decide +kernel
theorem dX6_begin_45 : decode cX6_begin 45 = .ok (.getfield 31, 3) := by decide +kernel
theorem dX6_begin_48 : decode cX6_begin 48 = .ok (.aload_n 0, 1) := by decide +kernel
theorem dX6_begin_49 : decode cX6_begin 49 = .ok (.getfield 65, 3) := by decide +kernel
theorem dX6_begin_52 : decode cX6_begin 52 = .ok (.iload_n 3, 1) := by decide +kernel
theorem dX6_begin_53 : decode cX6_begin 53 = .ok (.iastore, 1) := by decide +kernel
theorem dX6_begin_54 : decode cX6_begin 54 = .ok (.aload_n 0, 1) := by decide +kernel
theorem dX6_begin_55 : decode cX6_begin 55 = .ok (.getfield 34, 3) := by decide +kernel
theorem dX6_begin_58 : decode cX6_begin 58 = .ok (.aload_n 0, 1) := by decide +kernel
theorem dX6_begin_59 : decode cX6_begin 59 = .ok (.getfield 65, 3) := by decide +kernel
theorem dX6_begin_62 : decode cX6_begin 62 = .ok (.iconst 0, 1) := by decide +kernel
theorem dX6_begin_63 : decode cX6_begin 63 = .ok (.iastore, 1) := by decide +kernel
theorem dX6_begin_64 : decode cX6_begin 64 = .ok (.aload_n 0, 1) := by decide +kernel
theorem dX6_begin_65 : decode cX6_begin 65 = .ok (.getfield 37, 3) := by decide +kernel
theorem dX6_begin_68 : decode cX6_begin 68 = .ok (.aload_n 0, 1) := by decide +kernel
theorem dX6_begin_69 : decode cX6_begin 69 = .ok (.getfield 65, 3) := by decide +kernel
theorem dX6_begin_72 : decode cX6_begin 72 = .ok (.aload_n 0, 1) := by decide +kernel
theorem dX6_begin_73 : decode cX6_begin 73 = .ok (.getfield 69, 3) := by decide +kernel
theorem dX6_begin_76 : decode cX6_begin 76 = .ok (.iastore, 1) := by decide +kernel
theorem dX6_begin_77 : decode cX6_begin 77 = .ok (.aload_n 0, 1) := by decide +kernel
theorem dX6_begin_78 : decode cX6_begin 78 = .ok (.getfield 40, 3) := by decide +kernel
theorem dX6_begin_81 : decode cX6_begin 81 = .ok (.aload_n 0, 1) := by decide +kernel
theorem dX6_begin_82 : decode cX6_begin 82 = .ok (.getfield 65, 3) := by decide +kernel
theorem dX6_begin_85 : decode cX6_begin 85 = .ok (.iconst 0, 1) := by decide +kernel
theorem dX6_begin_86 : decode cX6_begin 86 = .ok (.iastore, 1) := by decide +kernel
theorem dX6_begin_87 : decode cX6_begin 87 = .ok (.aload_n 0, 1) := by decide +kernel
theorem dX6_begin_88 : decode cX6_begin 88 = .ok (.getfield 49, 3) := by decide +kernel
theorem dX6_begin_91 : decode cX6_begin 91 = .ok (.aload_n 0, 1) := by decide +kernel
theorem dX6_begin_92 : decode cX6_begin 92 = .ok (.getfield 65, 3) := by decide +kernel
theorem dX6_begin_95 : decode cX6_begin 95 = .ok (.iconst 0, 1) := by decide +kernel
theorem dX6_begin_96 : decode cX6_begin 96 = .ok (.bastore, 1) := by decide +kernel
theorem dX6_begin_97 : decode cX6_begin 97 = .ok (.aload_n 0, 1) := by decide +kernel
theorem dX6_begin_98 : decode cX6_begin 98 = .ok (.iload_n 3, 1) := by decide +kernel
theorem dX6_begin_99 : decode cX6_begin 99 = .ok (.invokevirtual 75, 3) := by decide +kernel
theorem dX6_begin_102 : decode cX6_begin 102 = .ok (.ifCond .eq 13, 3) := by decide +kernel
theorem dX6_begin_105 : decode cX6_begin 105 = .ok (.aload_n 0, 1) := by decide +kernel
theorem dX6_begin_106 : decode cX6_begin 106 = .ok (.getfield 34, 3) := by decide +kernel
theorem dX6_begin_109 : decode cX6_begin 109 = .ok (.iload_n 3, 1) := by decide +kernel
theorem dX6_begin_110 : decode cX6_begin 110 = .ok (.dup2, 1) := by decide +kernel
theorem dX6_begin_111 : decode cX6_begin 111 = .ok (.iaload, 1) := by decide +kernel
theorem dX6_begin_112 : decode cX6_begin 112 = .ok (.iconst 1, 1) := by decide +kernel
theorem dX6_begin_113 : decode cX6_begin 113 = .ok (.iadd, 1) := by decide +kernel
theorem dX6_begin_114 : decode cX6_begin 114 = .ok (.iastore, 1) := by decide +kernel
theorem dX6_begin_115 : decode cX6_begin 115 = .ok (.aload_n 0, 1) := by decide +kernel
theorem dX6_begin_116 : decode cX6_begin 116 = .ok (.dup, 1) := by decide +kernel
theorem dX6_begin_117 : decode cX6_begin 117 = .ok (.getfield 65, 3) := by decide +kernel
theorem dX6_begin_120 : decode cX6_begin 120 = .ok (.iconst 1, 1) := by decide +kernel
theorem dX6_begin_121 : decode cX6_begin 121 = .ok (.iadd, 1) := by decide +kernel
theorem dX6_begin_122 : decode cX6_begin 122 = .ok (.putfield 65, 3) := by decide +kernel
theorem dX6_begin_125 : decode cX6_begin 125 = .ok (.aload_n 0, 1) := by decide +kernel
theorem dX6_begin_126 : decode cX6_begin 126 = .ok (.getfield 65, 3) := by decide +kernel
theorem dX6_begin_129 : decode cX6_begin 129 = .ok (.iconst 1, 1) := by decide +kernel
theorem dX6_begin_130 : decode cX6_begin 130 = .ok (.isub, 1) := by decide +kernel
theorem dX6_begin_131 : decode cX6_begin 131 = .ok (.ireturn, 1) := by decide +kernel
theorem dX6_addAttribute_0 : decode cX6_addAttribute 0 = .ok (.aload_n 0, 1) := by decide +kernel
theorem dX6_addAttribute_1 : decode cX6_addAttribute 1 = .ok (.getfield 65, 3) := by decide +kernel
theorem dX6_addAttribute_4 : decode cX6_addAttribute 4 = .ok (.ifCond .eq 13, 3) := by decide +kernel
theorem dX6_addAttribute_7 : decode cX6_addAttribute 7 = .ok (.aload_n 0, 1) := by decide +kernel
theorem dX6_addAttribute_8 : decode cX6_addAttribute 8 = .ok (.getfield 69, 3) := by decide +kernel
theorem dX6_addAttribute_11 : decode cX6_addAttribute 11 = .ok (.sipush 600, 3) := by decide +kernel
theorem dX6_addAttribute_14 : decode cX6_addAttribute 14 = .ok (.if_icmp .lt 4, 3) := by decide +kernel
theorem dX6_addAttribute_17 : decode cX6_addAttribute 17 = .ok (.return_, 1) := by decide +kernel
theorem dX6_addAttribute_18 : decode cX6_addAttribute 18 = .ok (.aload_n 0, 1) := by decide +kernel
theorem dX6_addAttribute_19 : decode cX6_addAttribute 19 = .ok (.getfield 53, 3) := by decide +kernel
theorem dX6_addAttribute_22 : decode cX6_addAttribute 22 = .ok (.aload_n 0, 1) := by decide +kernel
theorem dX6_addAttribute_23 : decode cX6_addAttribute 23 = .ok (.getfield 69, 3) := by decide +kernel
theorem dX6_addAttribute_26 : decode cX6_addAttribute 26 = .ok (.iload_n 1, 1) := by decide +kernel
theorem dX6_addAttribute_27 : decode cX6_addAttribute 27 = .ok (.iastore, 1) := by decide +kernel
theorem dX6_addAttribute_28 : decode cX6_addAttribute 28 = .ok (.aload_n 0, 1) := by decide +kernel
theorem dX6_addAttribute_29 : decode cX6_addAttribute 29 = .ok (.getfield 56, 3) := by decide +kernel
theorem dX6_addAttribute_32 : decode cX6_addAttribute 32 = .ok (.aload_n 0, 1) := by decide +kernel
theorem dX6_addAttribute_33 : decode cX6_addAttribute 33 = .ok (.getfield 69, 3) := by decide +kernel
theorem dX6_addAttribute_36 : decode cX6_addAttribute 36 = .ok (.iload_n 2, 1) := by decide +kernel
theorem dX6_addAttribute_37 : decode cX6_addAttribute 37 = .ok (.iastore, 1) := by decide +kernel
theorem dX6_addAttribute_38 : decode cX6_addAttribute 38 = .ok (.aload_n 0, 1) := by decide +kernel
theorem dX6_addAttribute_39 : decode cX6_addAttribute 39 = .ok (.getfield 59, 3) := by decide +kernel
theorem dX6_addAttribute_42 : decode cX6_addAttribute 42 = .ok (.aload_n 0, 1) := by decide +kernel
theorem dX6_addAttribute_43 : decode cX6_addAttribute 43 = .ok (.getfield 69, 3) := by decide +kernel
theorem dX6_addAttribute_46 : decode cX6_addAttribute 46 = .ok (.iload_n 3, 1) := by decide +kernel
theorem dX6_addAttribute_47 : decode cX6_addAttribute 47 = .ok (.iastore, 1) := by decide +kernel
theorem dX6_addAttribute_48 : decode cX6_addAttribute 48 = .ok (.aload_n 0, 1) := by decide +kernel
theorem dX6_addAttribute_49 : decode cX6_addAttribute 49 = .ok (.getfield 62, 3) := by decide +kernel
theorem dX6_addAttribute_52 : decode cX6_addAttribute 52 = .ok (.aload_n 0, 1) := by decide +kernel
theorem dX6_addAttribute_53 : decode cX6_addAttribute 53 = .ok (.getfield 69, 3) := by decide +kernel
theorem dX6_addAttribute_56 : decode cX6_addAttribute 56 = .ok (.aload_n 0, 1) := by decide +kernel
theorem dX6_addAttribute_57 : decode cX6_addAttribute 57 = .ok (.getfield 12, 3) := by decide +kernel
theorem dX6_addAttribute_60 : decode cX6_addAttribute 60 = .ok (.invokevirtual 79, 3) := by decide +kernel
theorem dX6_addAttribute_63 : decode cX6_addAttribute 63 = .ok (.iastore, 1) := by decide +kernel
theorem dX6_addAttribute_64 : decode cX6_addAttribute 64 = .ok (.aload_n 0, 1) := by decide +kernel
theorem dX6_addAttribute_65 : decode cX6_addAttribute 65 = .ok (.dup, 1) := by decide +kernel
theorem dX6_addAttribute_66 : decode cX6_addAttribute 66 = .ok (.getfield 69, 3) := by decide +kernel
theorem dX6_addAttribute_69 : decode cX6_addAttribute 69 = .ok (.iconst 1, 1) := by decide +kernel
theorem dX6_addAttribute_70 : decode cX6_addAttribute 70 = .ok (.iadd, 1) := by decide +kernel
theorem dX6_addAttribute_71 : decode cX6_addAttribute 71 = .ok (.putfield 69, 3) := by decide +kernel
theorem dX6_addAttribute_74 : decode cX6_addAttribute 74 = .ok (.aload_n 0, 1) := by decide +kernel
theorem dX6_addAttribute_75 : decode cX6_addAttribute 75 = .ok (.getfield 40, 3) := by decide +kernel
theorem dX6_addAttribute_78 : decode cX6_addAttribute 78 = .ok (.aload_n 0, 1) := by decide +kernel
theorem dX6_addAttribute_79 : decode cX6_addAttribute 79 = .ok (.getfield 65, 3) := by decide +kernel
theorem dX6_addAttribute_82 : decode cX6_addAttribute 82 = .ok (.iconst 1, 1) := by decide +kernel
theorem dX6_addAttribute_83 : decode cX6_addAttribute 83 = .ok (.isub, 1) := by decide +kernel
theorem dX6_addAttribute_84 : decode cX6_addAttribute 84 = .ok (.dup2, 1) := by decide +kernel
theorem dX6_addAttribute_85 : decode cX6_addAttribute 85 = .ok (.iaload, 1) := by decide +kernel
theorem dX6_addAttribute_86 : decode cX6_addAttribute 86 = .ok (.iconst 1, 1) := by decide +kernel
theorem dX6_addAttribute_87 : decode cX6_addAttribute 87 = .ok (.iadd, 1) := by decide +kernel
theorem dX6_addAttribute_88 : decode cX6_addAttribute 88 = .ok (.iastore, 1) := by decide +kernel
theorem dX6_addAttribute_89 : decode cX6_addAttribute 89 = .ok (.return_, 1) := by decide +kernel
theorem dX6_beginText_0 : decode cX6_beginText 0 = .ok (.aload_n 0, 1) := by decide +kernel
theorem dX6_beginText_1 : decode cX6_beginText 1 = .ok (.iload_n 1, 1) := by decide +kernel
theorem dX6_beginText_2 : decode cX6_beginText 2 = .ok (.invokevirtual 75, 3) := by decide +kernel
theorem dX6_beginText_5 : decode cX6_beginText 5 = .ok (.ifCond .eq 29, 3) := by decide +kernel
theorem dX6_beginText_8 : decode cX6_beginText 8 = .ok (.aload_n 0, 1) := by decide +kernel
theorem dX6_beginText_9 : decode cX6_beginText 9 = .ok (.getfield 43, 3) := by decide +kernel
theorem dX6_beginText_12 : decode cX6_beginText 12 = .ok (.iload_n 1, 1) := by decide +kernel
theorem dX6_beginText_13 : decode cX6_beginText 13 = .ok (.aload_n 0, 1) := by decide +kernel
theorem dX6_beginText_14 : decode cX6_beginText 14 = .ok (.getfield 12, 3) := by decide +kernel
theorem dX6_beginText_17 : decode cX6_beginText 17 = .ok (.invokevirtual 79, 3) := by decide +kernel
theorem dX6_beginText_20 : decode cX6_beginText 20 = .ok (.iastore, 1) := by decide +kernel
theorem dX6_beginText_21 : decode cX6_beginText 21 = .ok (.aload_n 0, 1) := by decide +kernel
theorem dX6_beginText_22 : decode cX6_beginText 22 = .ok (.getfield 46, 3) := by decide +kernel
theorem dX6_beginText_25 : decode cX6_beginText 25 = .ok (.iload_n 1, 1) := by decide +kernel
theorem dX6_beginText_26 : decode cX6_beginText 26 = .ok (.aload_n 0, 1) := by decide +kernel
theorem dX6_beginText_27 : decode cX6_beginText 27 = .ok (.getfield 12, 3) := by decide +kernel
theorem dX6_beginText_30 : decode cX6_beginText 30 = .ok (.invokevirtual 79, 3) := by decide +kernel
theorem dX6_beginText_33 : decode cX6_beginText 33 = .ok (.iastore, 1) := by decide +kernel
theorem dX6_beginText_34 : decode cX6_beginText 34 = .ok (.return_, 1) := by decide +kernel
theorem dX6_addText_0 : decode cX6_addText 0 = .ok (.aload_n 0, 1) := by decide +kernel
theorem dX6_addText_1 : decode cX6_addText 1 = .ok (.iload_n 1, 1) := by decide +kernel
theorem dX6_addText_2 : decode cX6_addText 2 = .ok (.invokevirtual 75, 3) := by decide +kernel
theorem dX6_addText_5 : decode cX6_addText 5 = .ok (.ifCond .eq 52, 3) := by decide +kernel
theorem dX6_addText_8 : decode cX6_addText 8 = .ok (.aload_n 0, 1) := by decide +kernel
theorem dX6_addText_9 : decode cX6_addText 9 = .ok (.getfield 12, 3) := by decide +kernel
theorem dX6_addText_12 : decode cX6_addText 12 = .ok (.iload_n 2, 1) := by decide +kernel
theorem dX6_addText_13 : decode cX6_addText 13 = .ok (.invokevirtual 83, 3) := by decide +kernel
theorem dX6_addText_16 : decode cX6_addText 16 = .ok (.pop, 1) := by decide +kernel
theorem dX6_addText_17 : decode cX6_addText 17 = .ok (.aload_n 0, 1) := by decide +kernel
theorem dX6_addText_18 : decode cX6_addText 18 = .ok (.getfield 46, 3) := by decide +kernel
theorem dX6_addText_21 : decode cX6_addText 21 = .ok (.iload_n 1, 1) := by decide +kernel
theorem dX6_addText_22 : decode cX6_addText 22 = .ok (.aload_n 0, 1) := by decide +kernel
theorem dX6_addText_23 : decode cX6_addText 23 = .ok (.getfield 12, 3) := by decide +kernel
theorem dX6_addText_26 : decode cX6_addText 26 = .ok (.invokevirtual 79, 3) := by decide +kernel
theorem dX6_addText_29 : decode cX6_addText 29 = .ok (.iastore, 1) := by decide +kernel
theorem dX6_addText_30 : decode cX6_addText 30 = .ok (.aload_n 0, 1) := by decide +kernel
theorem dX6_addText_31 : decode cX6_addText 31 = .ok (.getfield 49, 3) := by decide +kernel
theorem dX6_addText_34 : decode cX6_addText 34 = .ok (.iload_n 1, 1) := by decide +kernel
theorem dX6_addText_35 : decode cX6_addText 35 = .ok (.aload_n 0, 1) := by decide +kernel
theorem dX6_addText_36 : decode cX6_addText 36 = .ok (.getfield 49, 3) := by decide +kernel
theorem dX6_addText_39 : decode cX6_addText 39 = .ok (.iload_n 1, 1) := by decide +kernel
theorem dX6_addText_40 : decode cX6_addText 40 = .ok (.baload, 1) := by decide +kernel
theorem dX6_addText_41 : decode cX6_addText 41 = .ok (.ifCond .ne 10, 3) := by decide +kernel
theorem dX6_addText_44 : decode cX6_addText 44 = .ok (.iload_n 2, 1) := by decide +kernel
theorem dX6_addText_45 : decode cX6_addText 45 = .ok (.invokestatic 86, 3) := by decide +kernel
theorem dX6_addText_48 : decode cX6_addText 48 = .ok (.ifCond .ne 7, 3) := by decide +kernel
theorem dX6_addText_51 : decode cX6_addText 51 = .ok (.iconst 1, 1) := by decide +kernel
theorem dX6_addText_52 : decode cX6_addText 52 = .ok (.goto 4, 3) := by decide +kernel
theorem dX6_addText_55 : decode cX6_addText 55 = .ok (.iconst 0, 1) := by decide +kernel
theorem dX6_addText_56 : decode cX6_addText 56 = .ok (.bastore, 1) := by decide +kernel
theorem dX6_addText_57 : decode cX6_addText 57 = .ok (.return_, 1) := by decide +kernel
theorem dX6_beginOf_0 : decode cX6_beginOf 0 = .ok (.aload_n 0, 1) := by decide +kernel
theorem dX6_beginOf_1 : decode cX6_beginOf 1 = .ok (.iload_n 1, 1) := by decide +kernel
theorem dX6_beginOf_2 : decode cX6_beginOf 2 = .ok (.invokevirtual 75, 3) := by decide +kernel
theorem dX6_beginOf_5 : decode cX6_beginOf 5 = .ok (.ifCond .eq 12, 3) := by decide +kernel
theorem dX6_beginOf_8 : decode cX6_beginOf 8 = .ok (.aload_n 0, 1) := by decide +kernel
theorem dX6_beginOf_9 : decode cX6_beginOf 9 = .ok (.getfield 21, 3) := by decide +kernel
theorem dX6_beginOf_12 : decode cX6_beginOf 12 = .ok (.iload_n 1, 1) := by decide +kernel
theorem dX6_beginOf_13 : decode cX6_beginOf 13 = .ok (.iaload, 1) := by decide +kernel
theorem dX6_beginOf_14 : decode cX6_beginOf 14 = .ok (.goto 4, 3) := by decide +kernel
theorem dX6_beginOf_17 : decode cX6_beginOf 17 = .ok (.iconst 0, 1) := by decide +kernel
theorem dX6_beginOf_18 : decode cX6_beginOf 18 = .ok (.ireturn, 1) := by decide +kernel
theorem dX6_nameFrom_0 : decode cX6_nameFrom 0 = .ok (.aload_n 0, 1) := by decide +kernel
theorem dX6_nameFrom_1 : decode cX6_nameFrom 1 = .ok (.iload_n 1, 1) := by decide +kernel
theorem dX6_nameFrom_2 : decode cX6_nameFrom 2 = .ok (.invokevirtual 75, 3) := by decide +kernel
theorem dX6_nameFrom_5 : decode cX6_nameFrom 5 = .ok (.ifCond .eq 12, 3) := by decide +kernel
theorem dX6_nameFrom_8 : decode cX6_nameFrom 8 = .ok (.aload_n 0, 1) := by decide +kernel
theorem dX6_nameFrom_9 : decode cX6_nameFrom 9 = .ok (.getfield 25, 3) := by decide +kernel
theorem dX6_nameFrom_12 : decode cX6_nameFrom 12 = .ok (.iload_n 1, 1) := by decide +kernel
theorem dX6_nameFrom_13 : decode cX6_nameFrom 13 = .ok (.iaload, 1) := by decide +kernel
theorem dX6_nameFrom_14 : decode cX6_nameFrom 14 = .ok (.goto 4, 3) := by decide +kernel
theorem dX6_nameFrom_17 : decode cX6_nameFrom 17 = .ok (.iconst 0, 1) := by decide +kernel
theorem dX6_nameFrom_18 : decode cX6_nameFrom 18 = .ok (.ireturn, 1) := by decide +kernel
theorem dX6_nameTo_0 : decode cX6_nameTo 0 = .ok (.aload_n 0, 1) := by decide +kernel
theorem dX6_nameTo_1 : decode cX6_nameTo 1 = .ok (.iload_n 1, 1) := by decide +kernel
theorem dX6_nameTo_2 : decode cX6_nameTo 2 = .ok (.invokevirtual 75, 3) := by decide +kernel
theorem dX6_nameTo_5 : decode cX6_nameTo 5 = .ok (.ifCond .eq 12, 3) := by decide +kernel
theorem dX6_nameTo_8 : decode cX6_nameTo 8 = .ok (.aload_n 0, 1) := by decide +kernel
theorem dX6_nameTo_9 : decode cX6_nameTo 9 = .ok (.getfield 28, 3) := by decide +kernel
theorem dX6_nameTo_12 : decode cX6_nameTo 12 = .ok (.iload_n 1, 1) := by decide +kernel
theorem dX6_nameTo_13 : decode cX6_nameTo 13 = .ok (.iaload, 1) := by decide +kernel
theorem dX6_nameTo_14 : decode cX6_nameTo 14 = .ok (.goto 4, 3) := by decide +kernel
theorem dX6_nameTo_17 : decode cX6_nameTo 17 = .ok (.iconst 0, 1) := by decide +kernel
theorem dX6_nameTo_18 : decode cX6_nameTo 18 = .ok (.ireturn, 1) := by decide +kernel
theorem dX6_parent_0 : decode cX6_parent 0 = .ok (.aload_n 0, 1) := by decide +kernel
theorem dX6_parent_1 : decode cX6_parent 1 = .ok (.iload_n 1, 1) := by decide +kernel
theorem dX6_parent_2 : decode cX6_parent 2 = .ok (.invokevirtual 75, 3) := by decide +kernel
theorem dX6_parent_5 : decode cX6_parent 5 = .ok (.ifCond .eq 12, 3) := by decide +kernel
theorem dX6_parent_8 : decode cX6_parent 8 = .ok (.aload_n 0, 1) := by decide +kernel
theorem dX6_parent_9 : decode cX6_parent 9 = .ok (.getfield 31, 3) := by decide +kernel
theorem dX6_parent_12 : decode cX6_parent 12 = .ok (.iload_n 1, 1) := by decide +kernel
theorem dX6_parent_13 : decode cX6_parent 13 = .ok (.iaload, 1) := by decide +kernel
theorem dX6_parent_14 : decode cX6_parent 14 = .ok (.goto 4, 3) := by decide +kernel
theorem dX6_parent_17 : decode cX6_parent 17 = .ok (.iconst (-1), 1) := by decide +kernel
theorem dX6_parent_18 : decode cX6_parent 18 = .ok (.ireturn, 1) := by decide +kernel
theorem dX6_kidCount_0 : decode cX6_kidCount 0 = .ok (.aload_n 0, 1) := by decide +kernel
theorem dX6_kidCount_1 : decode cX6_kidCount 1 = .ok (.iload_n 1, 1) := by decide +kernel
theorem dX6_kidCount_2 : decode cX6_kidCount 2 = .ok (.invokevirtual 75, 3) := by decide +kernel
theorem dX6_kidCount_5 : decode cX6_kidCount 5 = .ok (.ifCond .eq 12, 3) := by decide +kernel
theorem dX6_kidCount_8 : decode cX6_kidCount 8 = .ok (.aload_n 0, 1) := by decide +kernel
theorem dX6_kidCount_9 : decode cX6_kidCount 9 = .ok (.getfield 34, 3) := by decide +kernel
theorem dX6_kidCount_12 : decode cX6_kidCount 12 = .ok (.iload_n 1, 1) := by decide +kernel
theorem dX6_kidCount_13 : decode cX6_kidCount 13 = .ok (.iaload, 1) := by decide +kernel
theorem dX6_kidCount_14 : decode cX6_kidCount 14 = .ok (.goto 4, 3) := by decide +kernel
theorem dX6_kidCount_17 : decode cX6_kidCount 17 = .ok (.iconst 0, 1) := by decide +kernel
theorem dX6_kidCount_18 : decode cX6_kidCount 18 = .ok (.ireturn, 1) := by decide +kernel
theorem dX6_firstAttribute_0 : decode cX6_firstAttribute 0 = .ok (.aload_n 0, 1) := by decide +kernel
theorem dX6_firstAttribute_1 : decode cX6_firstAttribute 1 = .ok (.iload_n 1, 1) := by decide +kernel
theorem dX6_firstAttribute_2 : decode cX6_firstAttribute 2 = .ok (.invokevirtual 75, 3) := by decide +kernel
theorem dX6_firstAttribute_5 : decode cX6_firstAttribute 5 = .ok (.ifCond .eq 12, 3) := by decide +kernel
theorem dX6_firstAttribute_8 : decode cX6_firstAttribute 8 = .ok (.aload_n 0, 1) := by decide +kernel
theorem dX6_firstAttribute_9 : decode cX6_firstAttribute 9 = .ok (.getfield 37, 3) := by decide +kernel
theorem dX6_firstAttribute_12 : decode cX6_firstAttribute 12 = .ok (.iload_n 1, 1) := by decide +kernel
theorem dX6_firstAttribute_13 : decode cX6_firstAttribute 13 = .ok (.iaload, 1) := by decide +kernel
theorem dX6_firstAttribute_14 : decode cX6_firstAttribute 14 = .ok (.goto 4, 3) := by decide +kernel
theorem dX6_firstAttribute_17 : decode cX6_firstAttribute 17 = .ok (.iconst 0, 1) := by decide +kernel
theorem dX6_firstAttribute_18 : decode cX6_firstAttribute 18 = .ok (.ireturn, 1) := by decide +kernel
theorem dX6_attributeCount_0 : decode cX6_attributeCount 0 = .ok (.aload_n 0, 1) := by decide +kernel
theorem dX6_attributeCount_1 : decode cX6_attributeCount 1 = .ok (.iload_n 1, 1) := by decide +kernel
theorem dX6_attributeCount_2 : decode cX6_attributeCount 2 = .ok (.invokevirtual 75, 3) := by decide +kernel
theorem dX6_attributeCount_5 : decode cX6_attributeCount 5 = .ok (.ifCond .eq 12, 3) := by decide +kernel
theorem dX6_attributeCount_8 : decode cX6_attributeCount 8 = .ok (.aload_n 0, 1) := by decide +kernel
theorem dX6_attributeCount_9 : decode cX6_attributeCount 9 = .ok (.getfield 40, 3) := by decide +kernel
theorem dX6_attributeCount_12 : decode cX6_attributeCount 12 = .ok (.iload_n 1, 1) := by decide +kernel
theorem dX6_attributeCount_13 : decode cX6_attributeCount 13 = .ok (.iaload, 1) := by decide +kernel
theorem dX6_attributeCount_14 : decode cX6_attributeCount 14 = .ok (.goto 4, 3) := by decide +kernel
theorem dX6_attributeCount_17 : decode cX6_attributeCount 17 = .ok (.iconst 0, 1) := by decide +kernel
theorem dX6_attributeCount_18 : decode cX6_attributeCount 18 = .ok (.ireturn, 1) := by decide +kernel
theorem dX6_textFrom_0 : decode cX6_textFrom 0 = .ok (.aload_n 0, 1) := by decide +kernel
theorem dX6_textFrom_1 : decode cX6_textFrom 1 = .ok (.iload_n 1, 1) := by decide +kernel
theorem dX6_textFrom_2 : decode cX6_textFrom 2 = .ok (.invokevirtual 75, 3) := by decide +kernel
theorem dX6_textFrom_5 : decode cX6_textFrom 5 = .ok (.ifCond .eq 12, 3) := by decide +kernel
theorem dX6_textFrom_8 : decode cX6_textFrom 8 = .ok (.aload_n 0, 1) := by decide +kernel
theorem dX6_textFrom_9 : decode cX6_textFrom 9 = .ok (.getfield 43, 3) := by decide +kernel
theorem dX6_textFrom_12 : decode cX6_textFrom 12 = .ok (.iload_n 1, 1) := by decide +kernel
theorem dX6_textFrom_13 : decode cX6_textFrom 13 = .ok (.iaload, 1) := by decide +kernel
theorem dX6_textFrom_14 : decode cX6_textFrom 14 = .ok (.goto 4, 3) := by decide +kernel
theorem dX6_textFrom_17 : decode cX6_textFrom 17 = .ok (.iconst 0, 1) := by decide +kernel
theorem dX6_textFrom_18 : decode cX6_textFrom 18 = .ok (.ireturn, 1) := by decide +kernel
theorem dX6_textTo_0 : decode cX6_textTo 0 = .ok (.aload_n 0, 1) := by decide +kernel
theorem dX6_textTo_1 : decode cX6_textTo 1 = .ok (.iload_n 1, 1) := by decide +kernel
theorem dX6_textTo_2 : decode cX6_textTo 2 = .ok (.invokevirtual 75, 3) := by decide +kernel
theorem dX6_textTo_5 : decode cX6_textTo 5 = .ok (.ifCond .eq 12, 3) := by decide +kernel
theorem dX6_textTo_8 : decode cX6_textTo 8 = .ok (.aload_n 0, 1) := by decide +kernel
theorem dX6_textTo_9 : decode cX6_textTo 9 = .ok (.getfield 46, 3) := by decide +kernel
theorem dX6_textTo_12 : decode cX6_textTo 12 = .ok (.iload_n 1, 1) := by decide +kernel
theorem dX6_textTo_13 : decode cX6_textTo 13 = .ok (.iaload, 1) := by decide +kernel
theorem dX6_textTo_14 : decode cX6_textTo 14 = .ok (.goto 4, 3) := by decide +kernel
theorem dX6_textTo_17 : decode cX6_textTo 17 = .ok (.iconst 0, 1) := by decide +kernel
theorem dX6_textTo_18 : decode cX6_textTo 18 = .ok (.ireturn, 1) := by decide +kernel
theorem dX6_isSolid_0 : decode cX6_isSolid 0 = .ok (.aload_n 0, 1) := by decide +kernel
theorem dX6_isSolid_1 : decode cX6_isSolid 1 = .ok (.iload_n 1, 1) := by decide +kernel
theorem dX6_isSolid_2 : decode cX6_isSolid 2 = .ok (.invokevirtual 75, 3) := by decide +kernel
theorem dX6_isSolid_5 : decode cX6_isSolid 5 = .ok (.ifCond .eq 16, 3) := by decide +kernel
theorem dX6_isSolid_8 : decode cX6_isSolid 8 = .ok (.aload_n 0, 1) := by decide +kernel
theorem dX6_isSolid_9 : decode cX6_isSolid 9 = .ok (.getfield 49, 3) := by decide +kernel
theorem dX6_isSolid_12 : decode cX6_isSolid 12 = .ok (.iload_n 1, 1) := by decide +kernel
theorem dX6_isSolid_13 : decode cX6_isSolid 13 = .ok (.baload, 1) := by decide +kernel
theorem dX6_isSolid_14 : decode cX6_isSolid 14 = .ok (.ifCond .eq 7, 3) := by decide +kernel
theorem dX6_isSolid_17 : decode cX6_isSolid 17 = .ok (.iconst 1, 1) := by decide +kernel
theorem dX6_isSolid_18 : decode cX6_isSolid 18 = .ok (.goto 4, 3) := by decide +kernel
theorem dX6_isSolid_21 : decode cX6_isSolid 21 = .ok (.iconst 0, 1) := by decide +kernel
theorem dX6_isSolid_22 : decode cX6_isSolid 22 = .ok (.ireturn, 1) := by decide +kernel
theorem dX6_keyFrom_0 : decode cX6_keyFrom 0 = .ok (.aload_n 0, 1) := by decide +kernel
theorem dX6_keyFrom_1 : decode cX6_keyFrom 1 = .ok (.iload_n 1, 1) := by decide +kernel
theorem dX6_keyFrom_2 : decode cX6_keyFrom 2 = .ok (.invokevirtual 89, 3) := by decide +kernel
theorem dX6_keyFrom_5 : decode cX6_keyFrom 5 = .ok (.ifCond .eq 12, 3) := by decide +kernel
theorem dX6_keyFrom_8 : decode cX6_keyFrom 8 = .ok (.aload_n 0, 1) := by decide +kernel
theorem dX6_keyFrom_9 : decode cX6_keyFrom 9 = .ok (.getfield 53, 3) := by decide +kernel
theorem dX6_keyFrom_12 : decode cX6_keyFrom 12 = .ok (.iload_n 1, 1) := by decide +kernel
theorem dX6_keyFrom_13 : decode cX6_keyFrom 13 = .ok (.iaload, 1) := by decide +kernel
theorem dX6_keyFrom_14 : decode cX6_keyFrom 14 = .ok (.goto 4, 3) := by decide +kernel
theorem dX6_keyFrom_17 : decode cX6_keyFrom 17 = .ok (.iconst 0, 1) := by decide +kernel
theorem dX6_keyFrom_18 : decode cX6_keyFrom 18 = .ok (.ireturn, 1) := by decide +kernel
theorem dX6_keyTo_0 : decode cX6_keyTo 0 = .ok (.aload_n 0, 1) := by decide +kernel
theorem dX6_keyTo_1 : decode cX6_keyTo 1 = .ok (.iload_n 1, 1) := by decide +kernel
theorem dX6_keyTo_2 : decode cX6_keyTo 2 = .ok (.invokevirtual 89, 3) := by decide +kernel
theorem dX6_keyTo_5 : decode cX6_keyTo 5 = .ok (.ifCond .eq 12, 3) := by decide +kernel
theorem dX6_keyTo_8 : decode cX6_keyTo 8 = .ok (.aload_n 0, 1) := by decide +kernel
theorem dX6_keyTo_9 : decode cX6_keyTo 9 = .ok (.getfield 56, 3) := by decide +kernel
theorem dX6_keyTo_12 : decode cX6_keyTo 12 = .ok (.iload_n 1, 1) := by decide +kernel
theorem dX6_keyTo_13 : decode cX6_keyTo 13 = .ok (.iaload, 1) := by decide +kernel
theorem dX6_keyTo_14 : decode cX6_keyTo 14 = .ok (.goto 4, 3) := by decide +kernel
theorem dX6_keyTo_17 : decode cX6_keyTo 17 = .ok (.iconst 0, 1) := by decide +kernel
theorem dX6_keyTo_18 : decode cX6_keyTo 18 = .ok (.ireturn, 1) := by decide +kernel
theorem dX6_valueFrom_0 : decode cX6_valueFrom 0 = .ok (.aload_n 0, 1) := by decide +kernel
theorem dX6_valueFrom_1 : decode cX6_valueFrom 1 = .ok (.iload_n 1, 1) := by decide +kernel
theorem dX6_valueFrom_2 : decode cX6_valueFrom 2 = .ok (.invokevirtual 89, 3) := by decide +kernel
theorem dX6_valueFrom_5 : decode cX6_valueFrom 5 = .ok (.ifCond .eq 12, 3) := by decide +kernel
theorem dX6_valueFrom_8 : decode cX6_valueFrom 8 = .ok (.aload_n 0, 1) := by decide +kernel
theorem dX6_valueFrom_9 : decode cX6_valueFrom 9 = .ok (.getfield 59, 3) := by decide +kernel
theorem dX6_valueFrom_12 : decode cX6_valueFrom 12 = .ok (.iload_n 1, 1) := by decide +kernel
theorem dX6_valueFrom_13 : decode cX6_valueFrom 13 = .ok (.iaload, 1) := by decide +kernel
theorem dX6_valueFrom_14 : decode cX6_valueFrom 14 = .ok (.goto 4, 3) := by decide +kernel
theorem dX6_valueFrom_17 : decode cX6_valueFrom 17 = .ok (.iconst 0, 1) := by decide +kernel
theorem dX6_valueFrom_18 : decode cX6_valueFrom 18 = .ok (.ireturn, 1) := by decide +kernel
theorem dX6_valueTo_0 : decode cX6_valueTo 0 = .ok (.aload_n 0, 1) := by decide +kernel
theorem dX6_valueTo_1 : decode cX6_valueTo 1 = .ok (.iload_n 1, 1) := by decide +kernel
theorem dX6_valueTo_2 : decode cX6_valueTo 2 = .ok (.invokevirtual 89, 3) := by decide +kernel
theorem dX6_valueTo_5 : decode cX6_valueTo 5 = .ok (.ifCond .eq 12, 3) := by decide +kernel
theorem dX6_valueTo_8 : decode cX6_valueTo 8 = .ok (.aload_n 0, 1) := by decide +kernel
theorem dX6_valueTo_9 : decode cX6_valueTo 9 = .ok (.getfield 62, 3) := by decide +kernel
theorem dX6_valueTo_12 : decode cX6_valueTo 12 = .ok (.iload_n 1, 1) := by decide +kernel
theorem dX6_valueTo_13 : decode cX6_valueTo 13 = .ok (.iaload, 1) := by decide +kernel
theorem dX6_valueTo_14 : decode cX6_valueTo 14 = .ok (.goto 4, 3) := by decide +kernel
theorem dX6_valueTo_17 : decode cX6_valueTo 17 = .ok (.iconst 0, 1) := by decide +kernel
theorem dX6_valueTo_18 : decode cX6_valueTo 18 = .ok (.ireturn, 1) := by decide +kernel
theorem dX6_isNamed_0 : decode cX6_isNamed 0 = .ok (.aload_n 0, 1) := by decide +kernel
theorem dX6_isNamed_1 : decode cX6_isNamed 1 = .ok (.iload_n 1, 1) := by decide +kernel
theorem dX6_isNamed_2 : decode cX6_isNamed 2 = .ok (.invokevirtual 75, 3) := by decide +kernel
theorem dX6_isNamed_5 : decode cX6_isNamed 5 = .ok (.ifCond .eq 32, 3) := by decide +kernel
theorem dX6_isNamed_8 : decode cX6_isNamed 8 = .ok (.aload_n 0, 1) := by decide +kernel
theorem dX6_isNamed_9 : decode cX6_isNamed 9 = .ok (.aload_n 0, 1) := by decide +kernel
theorem dX6_isNamed_10 : decode cX6_isNamed 10 = .ok (.getfield 25, 3) := by decide +kernel
theorem dX6_isNamed_13 : decode cX6_isNamed 13 = .ok (.iload_n 1, 1) := by decide +kernel

