theorem dX9_startTag_124 : decode cX9_startTag 124 = .ok (.putfield 9, 3) := by decide +kernel
theorem dX9_startTag_127 : decode cX9_startTag 127 = .ok (.aload_n 0, 1) := by decide +kernel
theorem dX9_startTag_128 : decode cX9_startTag 128 = .ok (.getfield 24, 3) := by decide +kernel
theorem dX9_startTag_131 : decode cX9_startTag 131 = .ok (.aload_n 0, 1) := by decide +kernel
theorem dX9_startTag_132 : decode cX9_startTag 132 = .ok (.getfield 9, 3) := by decide +kernel
theorem dX9_startTag_135 : decode cX9_startTag 135 = .ok (.invokevirtual 47, 3) := by decide +kernel
theorem dX9_startTag_138 : decode cX9_startTag 138 = .ok (.bipush 62, 2) := by decide +kernel
theorem dX9_startTag_140 : decode cX9_startTag 140 = .ok (.if_icmp .eq 12, 3) := by decide +kernel
theorem dX9_startTag_143 : decode cX9_startTag 143 = .ok (.aload_n 0, 1) := by decide +kernel
theorem dX9_startTag_144 : decode cX9_startTag 144 = .ok (.aload_n 0, 1) := by decide +kernel
theorem dX9_startTag_145 : decode cX9_startTag 145 = .ok (.getfield 9, 3) := by decide +kernel
theorem dX9_startTag_148 : decode cX9_startTag 148 = .ok (.putfield 21, 3) := by decide +kernel
theorem dX9_startTag_151 : decode cX9_startTag 151 = .ok (.return_, 1) := by decide +kernel
theorem dX9_startTag_152 : decode cX9_startTag 152 = .ok (.aload_n 0, 1) := by decide +kernel
theorem dX9_startTag_153 : decode cX9_startTag 153 = .ok (.dup, 1) := by decide +kernel
theorem dX9_startTag_154 : decode cX9_startTag 154 = .ok (.getfield 9, 3) := by decide +kernel
theorem dX9_startTag_157 : decode cX9_startTag 157 = .ok (.iconst 1, 1) := by decide +kernel
theorem dX9_startTag_158 : decode cX9_startTag 158 = .ok (.iadd, 1) := by decide +kernel
theorem dX9_startTag_159 : decode cX9_startTag 159 = .ok (.putfield 9, 3) := by decide +kernel
theorem dX9_startTag_162 : decode cX9_startTag 162 = .ok (.aload_n 0, 1) := by decide +kernel
theorem dX9_startTag_163 : decode cX9_startTag 163 = .ok (.getfield 28, 3) := by decide +kernel
theorem dX9_startTag_166 : decode cX9_startTag 166 = .ok (.iload_n 2, 1) := by decide +kernel
theorem dX9_startTag_167 : decode cX9_startTag 167 = .ok (.invokevirtual 98, 3) := by decide +kernel
theorem dX9_startTag_170 : decode cX9_startTag 170 = .ok (.iload_n 3, 1) := by decide +kernel
theorem dX9_startTag_171 : decode cX9_startTag 171 = .ok (.ifCond .ne 18, 3) := by decide +kernel
theorem dX9_startTag_174 : decode cX9_startTag 174 = .ok (.aload_n 0, 1) := by decide +kernel
theorem dX9_startTag_175 : decode cX9_startTag 175 = .ok (.iload_n 2, 1) := by decide +kernel
theorem dX9_startTag_176 : decode cX9_startTag 176 = .ok (.putfield 15, 3) := by decide +kernel
theorem dX9_startTag_179 : decode cX9_startTag 179 = .ok (.aload_n 0, 1) := by decide +kernel
theorem dX9_startTag_180 : decode cX9_startTag 180 = .ok (.dup, 1) := by decide +kernel
theorem dX9_startTag_181 : decode cX9_startTag 181 = .ok (.getfield 18, 3) := by decide +kernel
theorem dX9_startTag_184 : decode cX9_startTag 184 = .ok (.iconst 1, 1) := by decide +kernel
theorem dX9_startTag_185 : decode cX9_startTag 185 = .ok (.iadd, 1) := by decide +kernel
theorem dX9_startTag_186 : decode cX9_startTag 186 = .ok (.putfield 18, 3) := by decide +kernel
theorem dX9_startTag_189 : decode cX9_startTag 189 = .ok (.return_, 1) := by decide +kernel
theorem dX9_skipsToName_0 : decode cX9_skipsToName 0 = .ok (.aload_n 0, 1) := by decide +kernel
theorem dX9_skipsToName_1 : decode cX9_skipsToName 1 = .ok (.getfield 9, 3) := by decide +kernel
theorem dX9_skipsToName_4 : decode cX9_skipsToName 4 = .ok (.istore_n 1, 1) := by decide +kernel
theorem dX9_skipsToName_5 : decode cX9_skipsToName 5 = .ok (.aload_n 0, 1) := by decide +kernel
theorem dX9_skipsToName_6 : decode cX9_skipsToName 6 = .ok (.invokevirtual 44, 3) := by decide +kernel
theorem dX9_skipsToName_9 : decode cX9_skipsToName 9 = .ok (.aload_n 0, 1) := by decide +kernel
theorem dX9_skipsToName_10 : decode cX9_skipsToName 10 = .ok (.getfield 9, 3) := by decide +kernel
theorem dX9_skipsToName_13 : decode cX9_skipsToName 13 = .ok (.iload_n 1, 1) := by decide +kernel
theorem dX9_skipsToName_14 : decode cX9_skipsToName 14 = .ok (.if_icmp .le 24, 3) := by decide +kernel
theorem dX9_skipsToName_17 : decode cX9_skipsToName 17 = .ok (.aload_n 0, 1) := by decide +kernel
theorem dX9_skipsToName_18 : decode cX9_skipsToName 18 = .ok (.getfield 24, 3) := by decide +kernel
theorem dX9_skipsToName_21 : decode cX9_skipsToName 21 = .ok (.aload_n 0, 1) := by decide +kernel
theorem dX9_skipsToName_22 : decode cX9_skipsToName 22 = .ok (.getfield 9, 3) := by decide +kernel
theorem dX9_skipsToName_25 : decode cX9_skipsToName 25 = .ok (.invokevirtual 47, 3) := by decide +kernel
theorem dX9_skipsToName_28 : decode cX9_skipsToName 28 = .ok (.invokestatic 101, 3) := by decide +kernel
theorem dX9_skipsToName_31 : decode cX9_skipsToName 31 = .ok (.ifCond .eq 7, 3) := by decide +kernel
theorem dX9_skipsToName_34 : decode cX9_skipsToName 34 = .ok (.iconst 1, 1) := by decide +kernel
theorem dX9_skipsToName_35 : decode cX9_skipsToName 35 = .ok (.goto 4, 3) := by decide +kernel
theorem dX9_skipsToName_38 : decode cX9_skipsToName 38 = .ok (.iconst 0, 1) := by decide +kernel
theorem dX9_skipsToName_39 : decode cX9_skipsToName 39 = .ok (.ireturn, 1) := by decide +kernel
theorem dX9_attribute_0 : decode cX9_attribute 0 = .ok (.aload_n 0, 1) := by decide +kernel
theorem dX9_attribute_1 : decode cX9_attribute 1 = .ok (.getfield 9, 3) := by decide +kernel
theorem dX9_attribute_4 : decode cX9_attribute 4 = .ok (.istore_n 2, 1) := by decide +kernel
theorem dX9_attribute_5 : decode cX9_attribute 5 = .ok (.aload_n 0, 1) := by decide +kernel
theorem dX9_attribute_6 : decode cX9_attribute 6 = .ok (.invokevirtual 83, 3) := by decide +kernel
theorem dX9_attribute_9 : decode cX9_attribute 9 = .ok (.aload_n 0, 1) := by decide +kernel
theorem dX9_attribute_10 : decode cX9_attribute 10 = .ok (.getfield 9, 3) := by decide +kernel
theorem dX9_attribute_13 : decode cX9_attribute 13 = .ok (.istore_n 3, 1) := by decide +kernel
theorem dX9_attribute_14 : decode cX9_attribute 14 = .ok (.aload_n 0, 1) := by decide +kernel
theorem dX9_attribute_15 : decode cX9_attribute 15 = .ok (.getfield 28, 3) := by decide +kernel
theorem dX9_attribute_18 : decode cX9_attribute 18 = .ok (.iload_n 1, 1) := by decide +kernel
theorem dX9_attribute_19 : decode cX9_attribute 19 = .ok (.iload_n 2, 1) := by decide +kernel
theorem dX9_attribute_20 : decode cX9_attribute 20 = .ok (.iload_n 3, 1) := by decide +kernel
theorem dX9_attribute_21 : decode cX9_attribute 21 = .ok (.invokevirtual 105, 3) := by decide +kernel
theorem dX9_attribute_24 : decode cX9_attribute 24 = .ok (.ifCond .eq 9, 3) := by decide +kernel
theorem dX9_attribute_27 : decode cX9_attribute 27 = .ok (.aload_n 0, 1) := by decide +kernel
theorem dX9_attribute_28 : decode cX9_attribute 28 = .ok (.iload_n 2, 1) := by decide +kernel
theorem dX9_attribute_29 : decode cX9_attribute 29 = .ok (.putfield 21, 3) := by decide +kernel
theorem dX9_attribute_32 : decode cX9_attribute 32 = .ok (.return_, 1) := by decide +kernel
theorem dX9_attribute_33 : decode cX9_attribute 33 = .ok (.aload_n 0, 1) := by decide +kernel
theorem dX9_attribute_34 : decode cX9_attribute 34 = .ok (.invokevirtual 109, 3) := by decide +kernel
theorem dX9_attribute_37 : decode cX9_attribute 37 = .ok (.ifCond .ne 12, 3) := by decide +kernel
theorem dX9_attribute_40 : decode cX9_attribute 40 = .ok (.aload_n 0, 1) := by decide +kernel
theorem dX9_attribute_41 : decode cX9_attribute 41 = .ok (.aload_n 0, 1) := by decide +kernel
theorem dX9_attribute_42 : decode cX9_attribute 42 = .ok (.getfield 9, 3) := by decide +kernel
theorem dX9_attribute_45 : decode cX9_attribute 45 = .ok (.putfield 21, 3) := by decide +kernel
theorem dX9_attribute_48 : decode cX9_attribute 48 = .ok (.return_, 1) := by decide +kernel
theorem dX9_attribute_49 : decode cX9_attribute 49 = .ok (.aload_n 0, 1) := by decide +kernel
theorem dX9_attribute_50 : decode cX9_attribute 50 = .ok (.getfield 24, 3) := by decide +kernel
theorem dX9_attribute_53 : decode cX9_attribute 53 = .ok (.aload_n 0, 1) := by decide +kernel
theorem dX9_attribute_54 : decode cX9_attribute 54 = .ok (.getfield 9, 3) := by decide +kernel
theorem dX9_attribute_57 : decode cX9_attribute 57 = .ok (.iconst 1, 1) := by decide +kernel
theorem dX9_attribute_58 : decode cX9_attribute 58 = .ok (.isub, 1) := by decide +kernel
theorem dX9_attribute_59 : decode cX9_attribute 59 = .ok (.invokevirtual 47, 3) := by decide +kernel
theorem dX9_attribute_62 : decode cX9_attribute 62 = .ok (.istore 4, 2) := by decide +kernel
theorem dX9_attribute_64 : decode cX9_attribute 64 = .ok (.aload_n 0, 1) := by decide +kernel
theorem dX9_attribute_65 : decode cX9_attribute 65 = .ok (.getfield 38, 3) := by decide +kernel
theorem dX9_attribute_68 : decode cX9_attribute 68 = .ok (.invokevirtual 80, 3) := by decide +kernel
theorem dX9_attribute_71 : decode cX9_attribute 71 = .ok (.istore 5, 2) := by decide +kernel
theorem dX9_attribute_73 : decode cX9_attribute 73 = .ok (.iconst 0, 1) := by decide +kernel
theorem dX9_attribute_74 : decode cX9_attribute 74 = .ok (.istore 6, 2) := by decide +kernel
theorem dX9_attribute_76 : decode cX9_attribute 76 = .ok (.iload 6, 2) := by decide +kernel
theorem dX9_attribute_78 : decode cX9_attribute 78 = .ok (.sipush 3000, 3) := by decide +kernel
theorem dX9_attribute_81 : decode cX9_attribute 81 = .ok (.if_icmp .ge 41, 3) := by decide +kernel
theorem dX9_attribute_84 : decode cX9_attribute 84 = .ok (.aload_n 0, 1) := by decide +kernel
theorem dX9_attribute_85 : decode cX9_attribute 85 = .ok (.iload 4, 2) := by decide +kernel
theorem dX9_attribute_87 : decode cX9_attribute 87 = .ok (.invokevirtual 112, 3) := by decide +kernel
theorem dX9_attribute_90 : decode cX9_attribute 90 = .ok (.ifCond .ne 32, 3) := by decide +kernel
theorem dX9_attribute_93 : decode cX9_attribute 93 = .ok (.aload_n 0, 1) := by decide +kernel
theorem dX9_attribute_94 : decode cX9_attribute 94 = .ok (.invokevirtual 115, 3) := by decide +kernel
theorem dX9_attribute_97 : decode cX9_attribute 97 = .ok (.istore 7, 2) := by decide +kernel
theorem dX9_attribute_99 : decode cX9_attribute 99 = .ok (.iload 7, 2) := by decide +kernel
theorem dX9_attribute_101 : decode cX9_attribute 101 = .ok (.iconst (-1), 1) := by decide +kernel
theorem dX9_attribute_102 : decode cX9_attribute 102 = .ok (.if_icmp .ne 4, 3) := by decide +kernel
theorem dX9_attribute_105 : decode cX9_attribute 105 = .ok (.return_, 1) := by decide +kernel
theorem dX9_attribute_106 : decode cX9_attribute 106 = .ok (.aload_n 0, 1) := by decide +kernel
theorem dX9_attribute_107 : decode cX9_attribute 107 = .ok (.getfield 38, 3) := by decide +kernel
theorem dX9_attribute_110 : decode cX9_attribute 110 = .ok (.iload 7, 2) := by decide +kernel
theorem dX9_attribute_112 : decode cX9_attribute 112 = .ok (.invokevirtual 118, 3) := by decide +kernel
theorem dX9_attribute_115 : decode cX9_attribute 115 = .ok (.pop, 1) := by decide +kernel
theorem dX9_attribute_116 : decode cX9_attribute 116 = .ok (.iinc 6 1, 3) := by decide +kernel
theorem dX9_attribute_119 : decode cX9_attribute 119 = .ok (.goto (-43), 3) := by decide +kernel
theorem dX9_attribute_122 : decode cX9_attribute 122 = .ok (.aload_n 0, 1) := by decide +kernel
theorem dX9_attribute_123 : decode cX9_attribute 123 = .ok (.getfield 24, 3) := by decide +kernel
theorem dX9_attribute_126 : decode cX9_attribute 126 = .ok (.aload_n 0, 1) := by decide +kernel
theorem dX9_attribute_127 : decode cX9_attribute 127 = .ok (.getfield 9, 3) := by decide +kernel
theorem dX9_attribute_130 : decode cX9_attribute 130 = .ok (.invokevirtual 47, 3) := by decide +kernel
theorem dX9_attribute_133 : decode cX9_attribute 133 = .ok (.iload 4, 2) := by decide +kernel
theorem dX9_attribute_135 : decode cX9_attribute 135 = .ok (.if_icmp .eq 12, 3) := by decide +kernel
theorem dX9_attribute_138 : decode cX9_attribute 138 = .ok (.aload_n 0, 1) := by decide +kernel
theorem dX9_attribute_139 : decode cX9_attribute 139 = .ok (.aload_n 0, 1) := by decide +kernel
theorem dX9_attribute_140 : decode cX9_attribute 140 = .ok (.getfield 9, 3) := by decide +kernel
theorem dX9_attribute_143 : decode cX9_attribute 143 = .ok (.putfield 21, 3) := by decide +kernel
theorem dX9_attribute_146 : decode cX9_attribute 146 = .ok (.return_, 1) := by decide +kernel
theorem dX9_attribute_147 : decode cX9_attribute 147 = .ok (.aload_n 0, 1) := by decide +kernel
theorem dX9_attribute_148 : decode cX9_attribute 148 = .ok (.dup, 1) := by decide +kernel
theorem dX9_attribute_149 : decode cX9_attribute 149 = .ok (.getfield 9, 3) := by decide +kernel
theorem dX9_attribute_152 : decode cX9_attribute 152 = .ok (.iconst 1, 1) := by decide +kernel
theorem dX9_attribute_153 : decode cX9_attribute 153 = .ok (.iadd, 1) := by decide +kernel
theorem dX9_attribute_154 : decode cX9_attribute 154 = .ok (.putfield 9, 3) := by decide +kernel
theorem dX9_attribute_157 : decode cX9_attribute 157 = .ok (.aload_n 0, 1) := by decide +kernel
theorem dX9_attribute_158 : decode cX9_attribute 158 = .ok (.getfield 28, 3) := by decide +kernel
theorem dX9_attribute_161 : decode cX9_attribute 161 = .ok (.iload_n 2, 1) := by decide +kernel
theorem dX9_attribute_162 : decode cX9_attribute 162 = .ok (.iload_n 3, 1) := by decide +kernel
theorem dX9_attribute_163 : decode cX9_attribute 163 = .ok (.iload 5, 2) := by decide +kernel
theorem dX9_attribute_165 : decode cX9_attribute 165 = .ok (.invokevirtual 121, 3) := by decide +kernel
theorem dX9_attribute_168 : decode cX9_attribute 168 = .ok (.return_, 1) := by decide +kernel
theorem dX9_skipsToValue_0 : decode cX9_skipsToValue 0 = .ok (.aload_n 0, 1) := by decide +kernel
theorem dX9_skipsToValue_1 : decode cX9_skipsToValue 1 = .ok (.getfield 24, 3) := by decide +kernel
theorem dX9_skipsToValue_4 : decode cX9_skipsToValue 4 = .ok (.aload_n 0, 1) := by decide +kernel
theorem dX9_skipsToValue_5 : decode cX9_skipsToValue 5 = .ok (.getfield 9, 3) := by decide +kernel
theorem dX9_skipsToValue_8 : decode cX9_skipsToValue 8 = .ok (.invokevirtual 47, 3) := by decide +kernel
theorem dX9_skipsToValue_11 : decode cX9_skipsToValue 11 = .ok (.bipush 61, 2) := by decide +kernel
theorem dX9_skipsToValue_13 : decode cX9_skipsToValue 13 = .ok (.if_icmp .eq 5, 3) := by decide +kernel
theorem dX9_skipsToValue_16 : decode cX9_skipsToValue 16 = .ok (.iconst 0, 1) := by decide +kernel
theorem dX9_skipsToValue_17 : decode cX9_skipsToValue 17 = .ok (.ireturn, 1) := by decide +kernel
theorem dX9_skipsToValue_18 : decode cX9_skipsToValue 18 = .ok (.aload_n 0, 1) := by decide +kernel
theorem dX9_skipsToValue_19 : decode cX9_skipsToValue 19 = .ok (.dup, 1) := by decide +kernel
theorem dX9_skipsToValue_20 : decode cX9_skipsToValue 20 = .ok (.getfield 9, 3) := by decide +kernel
theorem dX9_skipsToValue_23 : decode cX9_skipsToValue 23 = .ok (.iconst 1, 1) := by decide +kernel
theorem dX9_skipsToValue_24 : decode cX9_skipsToValue 24 = .ok (.iadd, 1) := by decide +kernel
theorem dX9_skipsToValue_25 : decode cX9_skipsToValue 25 = .ok (.putfield 9, 3) := by decide +kernel
theorem dX9_skipsToValue_28 : decode cX9_skipsToValue 28 = .ok (.aload_n 0, 1) := by decide +kernel
theorem dX9_skipsToValue_29 : decode cX9_skipsToValue 29 = .ok (.getfield 24, 3) := by decide +kernel
theorem dX9_skipsToValue_32 : decode cX9_skipsToValue 32 = .ok (.aload_n 0, 1) := by decide +kernel
theorem dX9_skipsToValue_33 : decode cX9_skipsToValue 33 = .ok (.getfield 9, 3) := by decide +kernel
theorem dX9_skipsToValue_36 : decode cX9_skipsToValue 36 = .ok (.invokevirtual 47, 3) := by decide +kernel
theorem dX9_skipsToValue_39 : decode cX9_skipsToValue 39 = .ok (.bipush 34, 2) := by decide +kernel
theorem dX9_skipsToValue_41 : decode cX9_skipsToValue 41 = .ok (.if_icmp .eq 21, 3) := by decide +kernel
theorem dX9_skipsToValue_44 : decode cX9_skipsToValue 44 = .ok (.aload_n 0, 1) := by decide +kernel
theorem dX9_skipsToValue_45 : decode cX9_skipsToValue 45 = .ok (.getfield 24, 3) := by decide +kernel
theorem dX9_skipsToValue_48 : decode cX9_skipsToValue 48 = .ok (.aload_n 0, 1) := by decide +kernel
theorem dX9_skipsToValue_49 : decode cX9_skipsToValue 49 = .ok (.getfield 9, 3) := by decide +kernel
theorem dX9_skipsToValue_52 : decode cX9_skipsToValue 52 = .ok (.invokevirtual 47, 3) := by decide +kernel
theorem dX9_skipsToValue_55 : decode cX9_skipsToValue 55 = .ok (.bipush 39, 2) := by decide +kernel
theorem dX9_skipsToValue_57 : decode cX9_skipsToValue 57 = .ok (.if_icmp .eq 5, 3) := by decide +kernel
theorem dX9_skipsToValue_60 : decode cX9_skipsToValue 60 = .ok (.iconst 0, 1) := by decide +kernel
theorem dX9_skipsToValue_61 : decode cX9_skipsToValue 61 = .ok (.ireturn, 1) := by decide +kernel
theorem dX9_skipsToValue_62 : decode cX9_skipsToValue 62 = .ok (.aload_n 0, 1) := by decide +kernel
theorem dX9_skipsToValue_63 : decode cX9_skipsToValue 63 = .ok (.dup, 1) := by decide +kernel
theorem dX9_skipsToValue_64 : decode cX9_skipsToValue 64 = .ok (.getfield 9, 3) := by decide +kernel
theorem dX9_skipsToValue_67 : decode cX9_skipsToValue 67 = .ok (.iconst 1, 1) := by decide +kernel
theorem dX9_skipsToValue_68 : decode cX9_skipsToValue 68 = .ok (.iadd, 1) := by decide +kernel
theorem dX9_skipsToValue_69 : decode cX9_skipsToValue 69 = .ok (.putfield 9, 3) := by decide +kernel
theorem dX9_skipsToValue_72 : decode cX9_skipsToValue 72 = .ok (.iconst 1, 1) := by decide +kernel
theorem dX9_skipsToValue_73 : decode cX9_skipsToValue 73 = .ok (.ireturn, 1) := by decide +kernel
theorem dX9_endsValue_0 : decode cX9_endsValue 0 = .ok (.aload_n 0, 1) := by decide +kernel
theorem dX9_endsValue_1 : decode cX9_endsValue 1 = .ok (.getfield 24, 3) := by decide +kernel
theorem dX9_endsValue_4 : decode cX9_endsValue 4 = .ok (.aload_n 0, 1) := by decide +kernel
theorem dX9_endsValue_5 : decode cX9_endsValue 5 = .ok (.getfield 9, 3) := by decide +kernel
theorem dX9_endsValue_8 : decode cX9_endsValue 8 = .ok (.invokevirtual 47, 3) := by decide +kernel
theorem dX9_endsValue_11 : decode cX9_endsValue 11 = .ok (.istore_n 2, 1) := by decide +kernel
theorem dX9_endsValue_12 : decode cX9_endsValue 12 = .ok (.iload_n 2, 1) := by decide +kernel
theorem dX9_endsValue_13 : decode cX9_endsValue 13 = .ok (.iload_n 1, 1) := by decide +kernel
theorem dX9_endsValue_14 : decode cX9_endsValue 14 = .ok (.if_icmp .eq 14, 3) := by decide +kernel
theorem dX9_endsValue_17 : decode cX9_endsValue 17 = .ok (.iload_n 2, 1) := by decide +kernel
theorem dX9_endsValue_18 : decode cX9_endsValue 18 = .ok (.bipush 60, 2) := by decide +kernel
theorem dX9_endsValue_20 : decode cX9_endsValue 20 = .ok (.if_icmp .eq 8, 3) := by decide +kernel
theorem dX9_endsValue_23 : decode cX9_endsValue 23 = .ok (.iload_n 2, 1) := by decide +kernel
theorem dX9_endsValue_24 : decode cX9_endsValue 24 = .ok (.iconst (-1), 1) := by decide +kernel
theorem dX9_endsValue_25 : decode cX9_endsValue 25 = .ok (.if_icmp .ne 7, 3) := by decide +kernel
theorem dX9_endsValue_28 : decode cX9_endsValue 28 = .ok (.iconst 1, 1) := by decide +kernel
theorem dX9_endsValue_29 : decode cX9_endsValue 29 = .ok (.goto 4, 3) := by decide +kernel
theorem dX9_endsValue_32 : decode cX9_endsValue 32 = .ok (.iconst 0, 1) := by decide +kernel
theorem dX9_endsValue_33 : decode cX9_endsValue 33 = .ok (.ireturn, 1) := by decide +kernel
theorem dX9_endTag_0 : decode cX9_endTag 0 = .ok (.aload_n 0, 1) := by decide +kernel
theorem dX9_endTag_1 : decode cX9_endTag 1 = .ok (.dup, 1) := by decide +kernel
theorem dX9_endTag_2 : decode cX9_endTag 2 = .ok (.getfield 9, 3) := by decide +kernel
theorem dX9_endTag_5 : decode cX9_endTag 5 = .ok (.iconst 2, 1) := by decide +kernel
theorem dX9_endTag_6 : decode cX9_endTag 6 = .ok (.iadd, 1) := by decide +kernel
theorem dX9_endTag_7 : decode cX9_endTag 7 = .ok (.putfield 9, 3) := by decide +kernel
theorem dX9_endTag_10 : decode cX9_endTag 10 = .ok (.aload_n 0, 1) := by decide +kernel
theorem dX9_endTag_11 : decode cX9_endTag 11 = .ok (.getfield 9, 3) := by decide +kernel
theorem dX9_endTag_14 : decode cX9_endTag 14 = .ok (.istore_n 1, 1) := by decide +kernel
theorem dX9_endTag_15 : decode cX9_endTag 15 = .ok (.aload_n 0, 1) := by decide +kernel
theorem dX9_endTag_16 : decode cX9_endTag 16 = .ok (.invokevirtual 83, 3) := by decide +kernel
theorem dX9_endTag_19 : decode cX9_endTag 19 = .ok (.aload_n 0, 1) := by decide +kernel
theorem dX9_endTag_20 : decode cX9_endTag 20 = .ok (.getfield 9, 3) := by decide +kernel
theorem dX9_endTag_23 : decode cX9_endTag 23 = .ok (.iload_n 1, 1) := by decide +kernel
theorem dX9_endTag_24 : decode cX9_endTag 24 = .ok (.if_icmp .ne 12, 3) := by decide +kernel
theorem dX9_endTag_27 : decode cX9_endTag 27 = .ok (.aload_n 0, 1) := by decide +kernel
theorem dX9_endTag_28 : decode cX9_endTag 28 = .ok (.aload_n 0, 1) := by decide +kernel
theorem dX9_endTag_29 : decode cX9_endTag 29 = .ok (.getfield 9, 3) := by decide +kernel
theorem dX9_endTag_32 : decode cX9_endTag 32 = .ok (.putfield 21, 3) := by decide +kernel
theorem dX9_endTag_35 : decode cX9_endTag 35 = .ok (.return_, 1) := by decide +kernel
theorem dX9_endTag_36 : decode cX9_endTag 36 = .ok (.aload_n 0, 1) := by decide +kernel
theorem dX9_endTag_37 : decode cX9_endTag 37 = .ok (.getfield 28, 3) := by decide +kernel
theorem dX9_endTag_40 : decode cX9_endTag 40 = .ok (.aload_n 0, 1) := by decide +kernel
theorem dX9_endTag_41 : decode cX9_endTag 41 = .ok (.getfield 15, 3) := by decide +kernel
theorem dX9_endTag_44 : decode cX9_endTag 44 = .ok (.iload_n 1, 1) := by decide +kernel
theorem dX9_endTag_45 : decode cX9_endTag 45 = .ok (.aload_n 0, 1) := by decide +kernel
theorem dX9_endTag_46 : decode cX9_endTag 46 = .ok (.getfield 9, 3) := by decide +kernel
theorem dX9_endTag_49 : decode cX9_endTag 49 = .ok (.invokevirtual 125, 3) := by decide +kernel
theorem dX9_endTag_52 : decode cX9_endTag 52 = .ok (.ifCond .ne 9, 3) := by decide +kernel
theorem dX9_endTag_55 : decode cX9_endTag 55 = .ok (.aload_n 0, 1) := by decide +kernel
theorem dX9_endTag_56 : decode cX9_endTag 56 = .ok (.iload_n 1, 1) := by decide +kernel
theorem dX9_endTag_57 : decode cX9_endTag 57 = .ok (.putfield 21, 3) := by decide +kernel
theorem dX9_endTag_60 : decode cX9_endTag 60 = .ok (.return_, 1) := by decide +kernel
theorem dX9_endTag_61 : decode cX9_endTag 61 = .ok (.aload_n 0, 1) := by decide +kernel
theorem dX9_endTag_62 : decode cX9_endTag 62 = .ok (.invokevirtual 44, 3) := by decide +kernel
theorem dX9_endTag_65 : decode cX9_endTag 65 = .ok (.aload_n 0, 1) := by decide +kernel
theorem dX9_endTag_66 : decode cX9_endTag 66 = .ok (.getfield 24, 3) := by decide +kernel
theorem dX9_endTag_69 : decode cX9_endTag 69 = .ok (.aload_n 0, 1) := by decide +kernel
theorem dX9_endTag_70 : decode cX9_endTag 70 = .ok (.getfield 9, 3) := by decide +kernel
theorem dX9_endTag_73 : decode cX9_endTag 73 = .ok (.invokevirtual 47, 3) := by decide +kernel
theorem dX9_endTag_76 : decode cX9_endTag 76 = .ok (.bipush 62, 2) := by decide +kernel
theorem dX9_endTag_78 : decode cX9_endTag 78 = .ok (.if_icmp .eq 12, 3) := by decide +kernel
theorem dX9_endTag_81 : decode cX9_endTag 81 = .ok (.aload_n 0, 1) := by decide +kernel
theorem dX9_endTag_82 : decode cX9_endTag 82 = .ok (.aload_n 0, 1) := by decide +kernel
theorem dX9_endTag_83 : decode cX9_endTag 83 = .ok (.getfield 9, 3) := by decide +kernel
theorem dX9_endTag_86 : decode cX9_endTag 86 = .ok (.putfield 21, 3) := by decide +kernel
theorem dX9_endTag_89 : decode cX9_endTag 89 = .ok (.return_, 1) := by decide +kernel
theorem dX9_endTag_90 : decode cX9_endTag 90 = .ok (.aload_n 0, 1) := by decide +kernel
theorem dX9_endTag_91 : decode cX9_endTag 91 = .ok (.dup, 1) := by decide +kernel
theorem dX9_endTag_92 : decode cX9_endTag 92 = .ok (.getfield 9, 3) := by decide +kernel
theorem dX9_endTag_95 : decode cX9_endTag 95 = .ok (.iconst 1, 1) := by decide +kernel
theorem dX9_endTag_96 : decode cX9_endTag 96 = .ok (.iadd, 1) := by decide +kernel
theorem dX9_endTag_97 : decode cX9_endTag 97 = .ok (.putfield 9, 3) := by decide +kernel
theorem dX9_endTag_100 : decode cX9_endTag 100 = .ok (.aload_n 0, 1) := by decide +kernel
theorem dX9_endTag_101 : decode cX9_endTag 101 = .ok (.aload_n 0, 1) := by decide +kernel
theorem dX9_endTag_102 : decode cX9_endTag 102 = .ok (.getfield 28, 3) := by decide +kernel
theorem dX9_endTag_105 : decode cX9_endTag 105 = .ok (.aload_n 0, 1) := by decide +kernel
theorem dX9_endTag_106 : decode cX9_endTag 106 = .ok (.getfield 15, 3) := by decide +kernel
theorem dX9_endTag_109 : decode cX9_endTag 109 = .ok (.invokevirtual 128, 3) := by decide +kernel
theorem dX9_endTag_112 : decode cX9_endTag 112 = .ok (.putfield 15, 3) := by decide +kernel
theorem dX9_endTag_115 : decode cX9_endTag 115 = .ok (.aload_n 0, 1) := by decide +kernel
theorem dX9_endTag_116 : decode cX9_endTag 116 = .ok (.dup, 1) := by decide +kernel
theorem dX9_endTag_117 : decode cX9_endTag 117 = .ok (.getfield 18, 3) := by decide +kernel
theorem dX9_endTag_120 : decode cX9_endTag 120 = .ok (.iconst 1, 1) := by decide +kernel
theorem dX9_endTag_121 : decode cX9_endTag 121 = .ok (.isub, 1) := by decide +kernel
theorem dX9_endTag_122 : decode cX9_endTag 122 = .ok (.putfield 18, 3) := by decide +kernel
theorem dX9_endTag_125 : decode cX9_endTag 125 = .ok (.return_, 1) := by decide +kernel
theorem dX9_comment_0 : decode cX9_comment 0 = .ok (.aload_n 0, 1) := by decide +kernel
theorem dX9_comment_1 : decode cX9_comment 1 = .ok (.dup, 1) := by decide +kernel
theorem dX9_comment_2 : decode cX9_comment 2 = .ok (.getfield 9, 3) := by decide +kernel
theorem dX9_comment_5 : decode cX9_comment 5 = .ok (.iconst 4, 1) := by decide +kernel
theorem dX9_comment_6 : decode cX9_comment 6 = .ok (.iadd, 1) := by decide +kernel
theorem dX9_comment_7 : decode cX9_comment 7 = .ok (.putfield 9, 3) := by decide +kernel
theorem dX9_comment_10 : decode cX9_comment 10 = .ok (.aload_n 0, 1) := by decide +kernel
theorem dX9_comment_11 : decode cX9_comment 11 = .ok (.getfield 9, 3) := by decide +kernel
theorem dX9_comment_14 : decode cX9_comment 14 = .ok (.aload_n 0, 1) := by decide +kernel
theorem dX9_comment_15 : decode cX9_comment 15 = .ok (.getfield 24, 3) := by decide +kernel
theorem dX9_comment_18 : decode cX9_comment 18 = .ok (.invokevirtual 80, 3) := by decide +kernel
theorem dX9_comment_21 : decode cX9_comment 21 = .ok (.if_icmp .ge 25, 3) := by decide +kernel
theorem dX9_comment_24 : decode cX9_comment 24 = .ok (.aload_n 0, 1) := by decide +kernel
theorem dX9_comment_25 : decode cX9_comment 25 = .ok (.ldc 131, 2) := by decide +kernel
theorem dX9_comment_27 : decode cX9_comment 27 = .ok (.invokevirtual 64, 3) := by decide +kernel
theorem dX9_comment_30 : decode cX9_comment 30 = .ok (.ifCond .ne 16, 3) := by decide +kernel
theorem dX9_comment_33 : decode cX9_comment 33 = .ok (.aload_n 0, 1) := by decide +kernel
theorem dX9_comment_34 : decode cX9_comment 34 = .ok (.dup, 1) := by decide +kernel
theorem dX9_comment_35 : decode cX9_comment 35 = .ok (.getfield 9, 3) := by decide +kernel
theorem dX9_comment_38 : decode cX9_comment 38 = .ok (.iconst 1, 1) := by decide +kernel
theorem dX9_comment_39 : decode cX9_comment 39 = .ok (.iadd, 1) := by decide +kernel
theorem dX9_comment_40 : decode cX9_comment 40 = .ok (.putfield 9, 3) := by decide +kernel
theorem dX9_comment_43 : decode cX9_comment 43 = .ok (.goto (-33), 3) := by decide +kernel
theorem dX9_comment_46 : decode cX9_comment 46 = .ok (.aload_n 0, 1) := by decide +kernel
theorem dX9_comment_47 : decode cX9_comment 47 = .ok (.getfield 9, 3) := by decide +kernel
theorem dX9_comment_50 : decode cX9_comment 50 = .ok (.aload_n 0, 1) := by decide +kernel
theorem dX9_comment_51 : decode cX9_comment 51 = .ok (.getfield 24, 3) := by decide +kernel
theorem dX9_comment_54 : decode cX9_comment 54 = .ok (.invokevirtual 80, 3) := by decide +kernel
theorem dX9_comment_57 : decode cX9_comment 57 = .ok (.if_icmp .ge 13, 3) := by decide +kernel
theorem dX9_comment_60 : decode cX9_comment 60 = .ok (.aload_n 0, 1) := by decide +kernel
theorem dX9_comment_61 : decode cX9_comment 61 = .ok (.dup, 1) := by decide +kernel
theorem dX9_comment_62 : decode cX9_comment 62 = .ok (.getfield 9, 3) := by decide +kernel
theorem dX9_comment_65 : decode cX9_comment 65 = .ok (.iconst 2, 1) := by decide +kernel
theorem dX9_comment_66 : decode cX9_comment 66 = .ok (.iadd, 1) := by decide +kernel
theorem dX9_comment_67 : decode cX9_comment 67 = .ok (.putfield 9, 3) := by decide +kernel
theorem dX9_comment_70 : decode cX9_comment 70 = .ok (.aload_n 0, 1) := by decide +kernel
theorem dX9_comment_71 : decode cX9_comment 71 = .ok (.getfield 24, 3) := by decide +kernel
theorem dX9_comment_74 : decode cX9_comment 74 = .ok (.aload_n 0, 1) := by decide +kernel
theorem dX9_comment_75 : decode cX9_comment 75 = .ok (.getfield 9, 3) := by decide +kernel
theorem dX9_comment_78 : decode cX9_comment 78 = .ok (.invokevirtual 47, 3) := by decide +kernel
theorem dX9_comment_81 : decode cX9_comment 81 = .ok (.bipush 62, 2) := by decide +kernel
theorem dX9_comment_83 : decode cX9_comment 83 = .ok (.if_icmp .ne 16, 3) := by decide +kernel
theorem dX9_comment_86 : decode cX9_comment 86 = .ok (.aload_n 0, 1) := by decide +kernel
theorem dX9_comment_87 : decode cX9_comment 87 = .ok (.dup, 1) := by decide +kernel
theorem dX9_comment_88 : decode cX9_comment 88 = .ok (.getfield 9, 3) := by decide +kernel
theorem dX9_comment_91 : decode cX9_comment 91 = .ok (.iconst 1, 1) := by decide +kernel
theorem dX9_comment_92 : decode cX9_comment 92 = .ok (.iadd, 1) := by decide +kernel
theorem dX9_comment_93 : decode cX9_comment 93 = .ok (.putfield 9, 3) := by decide +kernel
theorem dX9_comment_96 : decode cX9_comment 96 = .ok (.goto 11, 3) := by decide +kernel
theorem dX9_comment_99 : decode cX9_comment 99 = .ok (.aload_n 0, 1) := by decide +kernel
theorem dX9_comment_100 : decode cX9_comment 100 = .ok (.aload_n 0, 1) := by decide +kernel
theorem dX9_comment_101 : decode cX9_comment 101 = .ok (.getfield 9, 3) := by decide +kernel
theorem dX9_comment_104 : decode cX9_comment 104 = .ok (.putfield 21, 3) := by decide +kernel
theorem dX9_comment_107 : decode cX9_comment 107 = .ok (.return_, 1) := by decide +kernel
theorem dX9_cdata_0 : decode cX9_cdata 0 = .ok (.aload_n 0, 1) := by decide +kernel
theorem dX9_cdata_1 : decode cX9_cdata 1 = .ok (.dup, 1) := by decide +kernel
theorem dX9_cdata_2 : decode cX9_cdata 2 = .ok (.getfield 9, 3) := by decide +kernel
theorem dX9_cdata_5 : decode cX9_cdata 5 = .ok (.bipush 9, 2) := by decide +kernel
theorem dX9_cdata_7 : decode cX9_cdata 7 = .ok (.iadd, 1) := by decide +kernel
theorem dX9_cdata_8 : decode cX9_cdata 8 = .ok (.putfield 9, 3) := by decide +kernel
theorem dX9_cdata_11 : decode cX9_cdata 11 = .ok (.aload_n 0, 1) := by decide +kernel
theorem dX9_cdata_12 : decode cX9_cdata 12 = .ok (.getfield 9, 3) := by decide +kernel
theorem dX9_cdata_15 : decode cX9_cdata 15 = .ok (.aload_n 0, 1) := by decide +kernel
theorem dX9_cdata_16 : decode cX9_cdata 16 = .ok (.getfield 24, 3) := by decide +kernel
theorem dX9_cdata_19 : decode cX9_cdata 19 = .ok (.invokevirtual 80, 3) := by decide +kernel
theorem dX9_cdata_22 : decode cX9_cdata 22 = .ok (.if_icmp .ge 47, 3) := by decide +kernel
theorem dX9_cdata_25 : decode cX9_cdata 25 = .ok (.aload_n 0, 1) := by decide +kernel
theorem dX9_cdata_26 : decode cX9_cdata 26 = .ok (.ldc 133, 2) := by decide +kernel
theorem dX9_cdata_28 : decode cX9_cdata 28 = .ok (.invokevirtual 64, 3) := by decide +kernel
theorem dX9_cdata_31 : decode cX9_cdata 31 = .ok (.ifCond .ne 38, 3) := by decide +kernel
theorem dX9_cdata_34 : decode cX9_cdata 34 = .ok (.aload_n 0, 1) := by decide +kernel
theorem dX9_cdata_35 : decode cX9_cdata 35 = .ok (.getfield 28, 3) := by decide +kernel
theorem dX9_cdata_38 : decode cX9_cdata 38 = .ok (.aload_n 0, 1) := by decide +kernel
theorem dX9_cdata_39 : decode cX9_cdata 39 = .ok (.getfield 15, 3) := by decide +kernel
theorem dX9_cdata_42 : decode cX9_cdata 42 = .ok (.aload_n 0, 1) := by decide +kernel
theorem dX9_cdata_43 : decode cX9_cdata 43 = .ok (.getfield 24, 3) := by decide +kernel
theorem dX9_cdata_46 : decode cX9_cdata 46 = .ok (.aload_n 0, 1) := by decide +kernel
theorem dX9_cdata_47 : decode cX9_cdata 47 = .ok (.getfield 9, 3) := by decide +kernel
theorem dX9_cdata_50 : decode cX9_cdata 50 = .ok (.invokevirtual 47, 3) := by decide +kernel
theorem dX9_cdata_53 : decode cX9_cdata 53 = .ok (.invokevirtual 135, 3) := by decide +kernel
theorem dX9_cdata_56 : decode cX9_cdata 56 = .ok (.aload_n 0, 1) := by decide +kernel
theorem dX9_cdata_57 : decode cX9_cdata 57 = .ok (.dup, 1) := by decide +kernel
theorem dX9_cdata_58 : decode cX9_cdata 58 = .ok (.getfield 9, 3) := by decide +kernel
theorem dX9_cdata_61 : decode cX9_cdata 61 = .ok (.iconst 1, 1) := by decide +kernel
theorem dX9_cdata_62 : decode cX9_cdata 62 = .ok (.iadd, 1) := by decide +kernel
theorem dX9_cdata_63 : decode cX9_cdata 63 = .ok (.putfield 9, 3) := by decide +kernel
theorem dX9_cdata_66 : decode cX9_cdata 66 = .ok (.goto (-55), 3) := by decide +kernel
theorem dX9_cdata_69 : decode cX9_cdata 69 = .ok (.aload_n 0, 1) := by decide +kernel
theorem dX9_cdata_70 : decode cX9_cdata 70 = .ok (.getfield 9, 3) := by decide +kernel
theorem dX9_cdata_73 : decode cX9_cdata 73 = .ok (.aload_n 0, 1) := by decide +kernel
theorem dX9_cdata_74 : decode cX9_cdata 74 = .ok (.getfield 24, 3) := by decide +kernel
theorem dX9_cdata_77 : decode cX9_cdata 77 = .ok (.invokevirtual 80, 3) := by decide +kernel
theorem dX9_cdata_80 : decode cX9_cdata 80 = .ok (.if_icmp .ge 16, 3) := by decide +kernel
theorem dX9_cdata_83 : decode cX9_cdata 83 = .ok (.aload_n 0, 1) := by decide +kernel
theorem dX9_cdata_84 : decode cX9_cdata 84 = .ok (.dup, 1) := by decide +kernel
theorem dX9_cdata_85 : decode cX9_cdata 85 = .ok (.getfield 9, 3) := by decide +kernel
theorem dX9_cdata_88 : decode cX9_cdata 88 = .ok (.iconst 3, 1) := by decide +kernel
theorem dX9_cdata_89 : decode cX9_cdata 89 = .ok (.iadd, 1) := by decide +kernel
theorem dX9_cdata_90 : decode cX9_cdata 90 = .ok (.putfield 9, 3) := by decide +kernel
theorem dX9_cdata_93 : decode cX9_cdata 93 = .ok (.goto 11, 3) := by decide +kernel
theorem dX9_cdata_96 : decode cX9_cdata 96 = .ok (.aload_n 0, 1) := by decide +kernel
theorem dX9_cdata_97 : decode cX9_cdata 97 = .ok (.aload_n 0, 1) := by decide +kernel
theorem dX9_cdata_98 : decode cX9_cdata 98 = .ok (.getfield 9, 3) := by decide +kernel
theorem dX9_cdata_101 : decode cX9_cdata 101 = .ok (.putfield 21, 3) := by decide +kernel
theorem dX9_cdata_104 : decode cX9_cdata 104 = .ok (.return_, 1) := by decide +kernel
theorem dX9_textSign_0 : decode cX9_textSign 0 = .ok (.aload_n 0, 1) := by decide +kernel
theorem dX9_textSign_1 : decode cX9_textSign 1 = .ok (.invokevirtual 115, 3) := by decide +kernel
theorem dX9_textSign_4 : decode cX9_textSign 4 = .ok (.istore_n 1, 1) := by decide +kernel
theorem dX9_textSign_5 : decode cX9_textSign 5 = .ok (.iload_n 1, 1) := by decide +kernel
theorem dX9_textSign_6 : decode cX9_textSign 6 = .ok (.iconst (-1), 1) := by decide +kernel
theorem dX9_textSign_7 : decode cX9_textSign 7 = .ok (.if_icmp .eq 15, 3) := by decide +kernel
theorem dX9_textSign_10 : decode cX9_textSign 10 = .ok (.aload_n 0, 1) := by decide +kernel
theorem dX9_textSign_11 : decode cX9_textSign 11 = .ok (.getfield 28, 3) := by decide +kernel
theorem dX9_textSign_14 : decode cX9_textSign 14 = .ok (.aload_n 0, 1) := by decide +kernel
theorem dX9_textSign_15 : decode cX9_textSign 15 = .ok (.getfield 15, 3) := by decide +kernel
theorem dX9_textSign_18 : decode cX9_textSign 18 = .ok (.iload_n 1, 1) := by decide +kernel
theorem dX9_textSign_19 : decode cX9_textSign 19 = .ok (.invokevirtual 135, 3) := by decide +kernel
theorem dX9_textSign_22 : decode cX9_textSign 22 = .ok (.return_, 1) := by decide +kernel
theorem dX9_decoded_0 : decode cX9_decoded 0 = .ok (.aload_n 0, 1) := by decide +kernel
theorem dX9_decoded_1 : decode cX9_decoded 1 = .ok (.getfield 24, 3) := by decide +kernel
theorem dX9_decoded_4 : decode cX9_decoded 4 = .ok (.aload_n 0, 1) := by decide +kernel
theorem dX9_decoded_5 : decode cX9_decoded 5 = .ok (.getfield 9, 3) := by decide +kernel
theorem dX9_decoded_8 : decode cX9_decoded 8 = .ok (.invokevirtual 47, 3) := by decide +kernel
theorem dX9_decoded_11 : decode cX9_decoded 11 = .ok (.istore_n 1, 1) := by decide +kernel
theorem dX9_decoded_12 : decode cX9_decoded 12 = .ok (.iload_n 1, 1) := by decide +kernel
theorem dX9_decoded_13 : decode cX9_decoded 13 = .ok (.bipush 38, 2) := by decide +kernel
theorem dX9_decoded_15 : decode cX9_decoded 15 = .ok (.if_icmp .eq 15, 3) := by decide +kernel
theorem dX9_decoded_18 : decode cX9_decoded 18 = .ok (.aload_n 0, 1) := by decide +kernel
theorem dX9_decoded_19 : decode cX9_decoded 19 = .ok (.dup, 1) := by decide +kernel
theorem dX9_decoded_20 : decode cX9_decoded 20 = .ok (.getfield 9, 3) := by decide +kernel
theorem dX9_decoded_23 : decode cX9_decoded 23 = .ok (.iconst 1, 1) := by decide +kernel
theorem dX9_decoded_24 : decode cX9_decoded 24 = .ok (.iadd, 1) := by decide +kernel
theorem dX9_decoded_25 : decode cX9_decoded 25 = .ok (.putfield 9, 3) := by decide +kernel
theorem dX9_decoded_28 : decode cX9_decoded 28 = .ok (.iload_n 1, 1) := by decide +kernel
theorem dX9_decoded_29 : decode cX9_decoded 29 = .ok (.ireturn, 1) := by decide +kernel
theorem dX9_decoded_30 : decode cX9_decoded 30 = .ok (.aload_n 0, 1) := by decide +kernel
theorem dX9_decoded_31 : decode cX9_decoded 31 = .ok (.getfield 24, 3) := by decide +kernel
theorem dX9_decoded_34 : decode cX9_decoded 34 = .ok (.aload_n 0, 1) := by decide +kernel
theorem dX9_decoded_35 : decode cX9_decoded 35 = .ok (.getfield 9, 3) := by decide +kernel
theorem dX9_decoded_38 : decode cX9_decoded 38 = .ok (.iconst 1, 1) := by decide +kernel
theorem dX9_decoded_39 : decode cX9_decoded 39 = .ok (.iadd, 1) := by decide +kernel
theorem dX9_decoded_40 : decode cX9_decoded 40 = .ok (.invokevirtual 47, 3) := by decide +kernel
theorem dX9_decoded_43 : decode cX9_decoded 43 = .ok (.bipush 35, 2) := by decide +kernel
theorem dX9_decoded_45 : decode cX9_decoded 45 = .ok (.if_icmp .ne 10, 3) := by decide +kernel
theorem dX9_decoded_48 : decode cX9_decoded 48 = .ok (.aload_n 0, 1) := by decide +kernel
theorem dX9_decoded_49 : decode cX9_decoded 49 = .ok (.invokevirtual 139, 3) := by decide +kernel
theorem dX9_decoded_52 : decode cX9_decoded 52 = .ok (.goto 7, 3) := by decide +kernel
theorem dX9_decoded_55 : decode cX9_decoded 55 = .ok (.aload_n 0, 1) := by decide +kernel
theorem dX9_decoded_56 : decode cX9_decoded 56 = .ok (.invokevirtual 142, 3) := by decide +kernel
theorem dX9_decoded_59 : decode cX9_decoded 59 = .ok (.istore_n 2, 1) := by decide +kernel
theorem dX9_decoded_60 : decode cX9_decoded 60 = .ok (.iload_n 2, 1) := by decide +kernel
theorem dX9_decoded_61 : decode cX9_decoded 61 = .ok (.iconst (-1), 1) := by decide +kernel
theorem dX9_decoded_62 : decode cX9_decoded 62 = .ok (.if_icmp .ne 11, 3) := by decide +kernel
theorem dX9_decoded_65 : decode cX9_decoded 65 = .ok (.aload_n 0, 1) := by decide +kernel
theorem dX9_decoded_66 : decode cX9_decoded 66 = .ok (.aload_n 0, 1) := by decide +kernel
theorem dX9_decoded_67 : decode cX9_decoded 67 = .ok (.getfield 9, 3) := by decide +kernel
theorem dX9_decoded_70 : decode cX9_decoded 70 = .ok (.putfield 21, 3) := by decide +kernel
theorem dX9_decoded_73 : decode cX9_decoded 73 = .ok (.iload_n 2, 1) := by decide +kernel
theorem dX9_decoded_74 : decode cX9_decoded 74 = .ok (.ireturn, 1) := by decide +kernel
theorem dX9_named_0 : decode cX9_named 0 = .ok (.aload_n 0, 1) := by decide +kernel
theorem dX9_named_1 : decode cX9_named 1 = .ok (.ldc 145, 2) := by decide +kernel
theorem dX9_named_3 : decode cX9_named 3 = .ok (.invokevirtual 64, 3) := by decide +kernel
theorem dX9_named_6 : decode cX9_named 6 = .ok (.ifCond .eq 16, 3) := by decide +kernel
theorem dX9_named_9 : decode cX9_named 9 = .ok (.aload_n 0, 1) := by decide +kernel
theorem dX9_named_10 : decode cX9_named 10 = .ok (.dup, 1) := by decide +kernel
theorem dX9_named_11 : decode cX9_named 11 = .ok (.getfield 9, 3) := by decide +kernel
theorem dX9_named_14 : decode cX9_named 14 = .ok (.iconst 5, 1) := by decide +kernel
theorem dX9_named_15 : decode cX9_named 15 = .ok (.iadd, 1) := by decide +kernel
theorem dX9_named_16 : decode cX9_named 16 = .ok (.putfield 9, 3) := by decide +kernel
theorem dX9_named_19 : decode cX9_named 19 = .ok (.bipush 38, 2) := by decide +kernel
theorem dX9_named_21 : decode cX9_named 21 = .ok (.ireturn, 1) := by decide +kernel
theorem dX9_named_22 : decode cX9_named 22 = .ok (.aload_n 0, 1) := by decide +kernel
theorem dX9_named_23 : decode cX9_named 23 = .ok (.ldc 147, 2) := by decide +kernel
theorem dX9_named_25 : decode cX9_named 25 = .ok (.invokevirtual 64, 3) := by decide +kernel
theorem dX9_named_28 : decode cX9_named 28 = .ok (.ifCond .eq 16, 3) := by decide +kernel
theorem dX9_named_31 : decode cX9_named 31 = .ok (.aload_n 0, 1) := by decide +kernel
theorem dX9_named_32 : decode cX9_named 32 = .ok (.dup, 1) := by decide +kernel
theorem dX9_named_33 : decode cX9_named 33 = .ok (.getfield 9, 3) := by decide +kernel
theorem dX9_named_36 : decode cX9_named 36 = .ok (.iconst 4, 1) := by decide +kernel
theorem dX9_named_37 : decode cX9_named 37 = .ok (.iadd, 1) := by decide +kernel
theorem dX9_named_38 : decode cX9_named 38 = .ok (.putfield 9, 3) := by decide +kernel
theorem dX9_named_41 : decode cX9_named 41 = .ok (.bipush 60, 2) := by decide +kernel
theorem dX9_named_43 : decode cX9_named 43 = .ok (.ireturn, 1) := by decide +kernel
theorem dX9_named_44 : decode cX9_named 44 = .ok (.aload_n 0, 1) := by decide +kernel
theorem dX9_named_45 : decode cX9_named 45 = .ok (.ldc 149, 2) := by decide +kernel
theorem dX9_named_47 : decode cX9_named 47 = .ok (.invokevirtual 64, 3) := by decide +kernel
theorem dX9_named_50 : decode cX9_named 50 = .ok (.ifCond .eq 16, 3) := by decide +kernel
theorem dX9_named_53 : decode cX9_named 53 = .ok (.aload_n 0, 1) := by decide +kernel
theorem dX9_named_54 : decode cX9_named 54 = .ok (.dup, 1) := by decide +kernel
theorem dX9_named_55 : decode cX9_named 55 = .ok (.getfield 9, 3) := by decide +kernel
theorem dX9_named_58 : decode cX9_named 58 = .ok (.iconst 4, 1) := by decide +kernel
theorem dX9_named_59 : decode cX9_named 59 = .ok (.iadd, 1) := by decide +kernel
theorem dX9_named_60 : decode cX9_named 60 = .ok (.putfield 9, 3) := by decide +kernel
theorem dX9_named_63 : decode cX9_named 63 = .ok (.bipush 62, 2) := by decide +kernel
theorem dX9_named_65 : decode cX9_named 65 = .ok (.ireturn, 1) := by decide +kernel
theorem dX9_named_66 : decode cX9_named 66 = .ok (.aload_n 0, 1) := by decide +kernel
theorem dX9_named_67 : decode cX9_named 67 = .ok (.ldc 151, 2) := by decide +kernel
theorem dX9_named_69 : decode cX9_named 69 = .ok (.invokevirtual 64, 3) := by decide +kernel
theorem dX9_named_72 : decode cX9_named 72 = .ok (.ifCond .eq 17, 3) := by decide +kernel
theorem dX9_named_75 : decode cX9_named 75 = .ok (.aload_n 0, 1) := by decide +kernel
theorem dX9_named_76 : decode cX9_named 76 = .ok (.dup, 1) := by decide +kernel
theorem dX9_named_77 : decode cX9_named 77 = .ok (.getfield 9, 3) := by decide +kernel
theorem dX9_named_80 : decode cX9_named 80 = .ok (.bipush 6, 2) := by decide +kernel
theorem dX9_named_82 : decode cX9_named 82 = .ok (.iadd, 1) := by decide +kernel
theorem dX9_named_83 : decode cX9_named 83 = .ok (.putfield 9, 3) := by decide +kernel
theorem dX9_named_86 : decode cX9_named 86 = .ok (.bipush 34, 2) := by decide +kernel
theorem dX9_named_88 : decode cX9_named 88 = .ok (.ireturn, 1) := by decide +kernel
theorem dX9_named_89 : decode cX9_named 89 = .ok (.aload_n 0, 1) := by decide +kernel
theorem dX9_named_90 : decode cX9_named 90 = .ok (.ldc 153, 2) := by decide +kernel
theorem dX9_named_92 : decode cX9_named 92 = .ok (.invokevirtual 64, 3) := by decide +kernel
theorem dX9_named_95 : decode cX9_named 95 = .ok (.ifCond .eq 17, 3) := by decide +kernel
theorem dX9_named_98 : decode cX9_named 98 = .ok (.aload_n 0, 1) := by decide +kernel
theorem dX9_named_99 : decode cX9_named 99 = .ok (.dup, 1) := by decide +kernel
theorem dX9_named_100 : decode cX9_named 100 = .ok (.getfield 9, 3) := by decide +kernel
theorem dX9_named_103 : decode cX9_named 103 = .ok (.bipush 6, 2) := by decide +kernel
theorem dX9_named_105 : decode cX9_named 105 = .ok (.iadd, 1) := by decide +kernel
theorem dX9_named_106 : decode cX9_named 106 = .ok (.putfield 9, 3) := by decide +kernel
theorem dX9_named_109 : decode cX9_named 109 = .ok (.bipush 39, 2) := by decide +kernel
theorem dX9_named_111 : decode cX9_named 111 = .ok (.ireturn, 1) := by decide +kernel
theorem dX9_named_112 : decode cX9_named 112 = .ok (.iconst (-1), 1) := by decide +kernel
theorem dX9_named_113 : decode cX9_named 113 = .ok (.ireturn, 1) := by decide +kernel
theorem dX9_numbered_0 : decode cX9_numbered 0 = .ok (.aload_n 0, 1) := by decide +kernel
theorem dX9_numbered_1 : decode cX9_numbered 1 = .ok (.getfield 24, 3) := by decide +kernel
theorem dX9_numbered_4 : decode cX9_numbered 4 = .ok (.aload_n 0, 1) := by decide +kernel
theorem dX9_numbered_5 : decode cX9_numbered 5 = .ok (.getfield 9, 3) := by decide +kernel
theorem dX9_numbered_8 : decode cX9_numbered 8 = .ok (.iconst 2, 1) := by decide +kernel
theorem dX9_numbered_9 : decode cX9_numbered 9 = .ok (.iadd, 1) := by decide +kernel
theorem dX9_numbered_10 : decode cX9_numbered 10 = .ok (.invokevirtual 47, 3) := by decide +kernel
theorem dX9_numbered_13 : decode cX9_numbered 13 = .ok (.bipush 120, 2) := by decide +kernel
theorem dX9_numbered_15 : decode cX9_numbered 15 = .ok (.if_icmp .ne 7, 3) := by decide +kernel
theorem dX9_numbered_18 : decode cX9_numbered 18 = .ok (.iconst 1, 1) := by decide +kernel
theorem dX9_numbered_19 : decode cX9_numbered 19 = .ok (.goto 4, 3) := by decide +kernel
theorem dX9_numbered_22 : decode cX9_numbered 22 = .ok (.iconst 0, 1) := by decide +kernel
theorem dX9_numbered_23 : decode cX9_numbered 23 = .ok (.istore_n 1, 1) := by decide +kernel
theorem dX9_numbered_24 : decode cX9_numbered 24 = .ok (.iload_n 1, 1) := by decide +kernel
theorem dX9_numbered_25 : decode cX9_numbered 25 = .ok (.ifCond .eq 8, 3) := by decide +kernel
theorem dX9_numbered_28 : decode cX9_numbered 28 = .ok (.bipush 16, 2) := by decide +kernel
theorem dX9_numbered_30 : decode cX9_numbered 30 = .ok (.goto 5, 3) := by decide +kernel
theorem dX9_numbered_33 : decode cX9_numbered 33 = .ok (.bipush 10, 2) := by decide +kernel
theorem dX9_numbered_35 : decode cX9_numbered 35 = .ok (.istore_n 2, 1) := by decide +kernel
theorem dX9_numbered_36 : decode cX9_numbered 36 = .ok (.aload_n 0, 1) := by decide +kernel
theorem dX9_numbered_37 : decode cX9_numbered 37 = .ok (.getfield 9, 3) := by decide +kernel
theorem dX9_numbered_40 : decode cX9_numbered 40 = .ok (.iload_n 1, 1) := by decide +kernel
theorem dX9_numbered_41 : decode cX9_numbered 41 = .ok (.ifCond .eq 7, 3) := by decide +kernel
theorem dX9_numbered_44 : decode cX9_numbered 44 = .ok (.iconst 3, 1) := by decide +kernel
theorem dX9_numbered_45 : decode cX9_numbered 45 = .ok (.goto 4, 3) := by decide +kernel
theorem dX9_numbered_48 : decode cX9_numbered 48 = .ok (.iconst 2, 1) := by decide +kernel
theorem dX9_numbered_49 : decode cX9_numbered 49 = .ok (.iadd, 1) := by decide +kernel
theorem dX9_numbered_50 : decode cX9_numbered 50 = .ok (.istore_n 3, 1) := by decide +kernel
theorem dX9_numbered_51 : decode cX9_numbered 51 = .ok (.iload_n 3, 1) := by decide +kernel
theorem dX9_numbered_52 : decode cX9_numbered 52 = .ok (.istore 4, 2) := by decide +kernel
theorem dX9_numbered_54 : decode cX9_numbered 54 = .ok (.iconst 0, 1) := by decide +kernel
theorem dX9_numbered_55 : decode cX9_numbered 55 = .ok (.istore 5, 2) := by decide +kernel
theorem dX9_numbered_57 : decode cX9_numbered 57 = .ok (.iconst 0, 1) := by decide +kernel
theorem dX9_numbered_58 : decode cX9_numbered 58 = .ok (.istore 6, 2) := by decide +kernel
theorem dX9_numbered_60 : decode cX9_numbered 60 = .ok (.iload 6, 2) := by decide +kernel
theorem dX9_numbered_62 : decode cX9_numbered 62 = .ok (.bipush 6, 2) := by decide +kernel
theorem dX9_numbered_64 : decode cX9_numbered 64 = .ok (.if_icmp .ge 48, 3) := by decide +kernel
theorem dX9_numbered_67 : decode cX9_numbered 67 = .ok (.aload_n 0, 1) := by decide +kernel
theorem dX9_numbered_68 : decode cX9_numbered 68 = .ok (.getfield 24, 3) := by decide +kernel
theorem dX9_numbered_71 : decode cX9_numbered 71 = .ok (.iload 4, 2) := by decide +kernel
theorem dX9_numbered_73 : decode cX9_numbered 73 = .ok (.invokevirtual 47, 3) := by decide +kernel
theorem dX9_numbered_76 : decode cX9_numbered 76 = .ok (.iload_n 2, 1) := by decide +kernel
theorem dX9_numbered_77 : decode cX9_numbered 77 = .ok (.invokestatic 155, 3) := by decide +kernel
theorem dX9_numbered_80 : decode cX9_numbered 80 = .ok (.ifCond .lt 32, 3) := by decide +kernel
theorem dX9_numbered_83 : decode cX9_numbered 83 = .ok (.iload 5, 2) := by decide +kernel
theorem dX9_numbered_85 : decode cX9_numbered 85 = .ok (.iload_n 2, 1) := by decide +kernel
theorem dX9_numbered_86 : decode cX9_numbered 86 = .ok (.imul, 1) := by decide +kernel
theorem dX9_numbered_87 : decode cX9_numbered 87 = .ok (.aload_n 0, 1) := by decide +kernel
theorem dX9_numbered_88 : decode cX9_numbered 88 = .ok (.getfield 24, 3) := by decide +kernel
theorem dX9_numbered_91 : decode cX9_numbered 91 = .ok (.iload 4, 2) := by decide +kernel
theorem dX9_numbered_93 : decode cX9_numbered 93 = .ok (.invokevirtual 47, 3) := by decide +kernel
theorem dX9_numbered_96 : decode cX9_numbered 96 = .ok (.iload_n 2, 1) := by decide +kernel
theorem dX9_numbered_97 : decode cX9_numbered 97 = .ok (.invokestatic 155, 3) := by decide +kernel
theorem dX9_numbered_100 : decode cX9_numbered 100 = .ok (.iadd, 1) := by decide +kernel
theorem dX9_numbered_101 : decode cX9_numbered 101 = .ok (.istore 5, 2) := by decide +kernel
theorem dX9_numbered_103 : decode cX9_numbered 103 = .ok (.iinc 4 1, 3) := by decide +kernel
theorem dX9_numbered_106 : decode cX9_numbered 106 = .ok (.iinc 6 1, 3) := by decide +kernel
theorem dX9_numbered_109 : decode cX9_numbered 109 = .ok (.goto (-49), 3) := by decide +kernel
theorem dX9_numbered_112 : decode cX9_numbered 112 = .ok (.iload 4, 2) := by decide +kernel
theorem dX9_numbered_114 : decode cX9_numbered 114 = .ok (.iload_n 3, 1) := by decide +kernel
theorem dX9_numbered_115 : decode cX9_numbered 115 = .ok (.if_icmp .eq 25, 3) := by decide +kernel
theorem dX9_numbered_118 : decode cX9_numbered 118 = .ok (.aload_n 0, 1) := by decide +kernel
theorem dX9_numbered_119 : decode cX9_numbered 119 = .ok (.getfield 24, 3) := by decide +kernel
theorem dX9_numbered_122 : decode cX9_numbered 122 = .ok (.iload 4, 2) := by decide +kernel
theorem dX9_numbered_124 : decode cX9_numbered 124 = .ok (.invokevirtual 47, 3) := by decide +kernel
theorem dX9_numbered_127 : decode cX9_numbered 127 = .ok (.bipush 59, 2) := by decide +kernel
theorem dX9_numbered_129 : decode cX9_numbered 129 = .ok (.if_icmp .ne 11, 3) := by decide +kernel
theorem dX9_numbered_132 : decode cX9_numbered 132 = .ok (.iload 5, 2) := by decide +kernel
theorem dX9_numbered_134 : decode cX9_numbered 134 = .ok (.invokestatic 159, 3) := by decide +kernel
theorem dX9_numbered_137 : decode cX9_numbered 137 = .ok (.ifCond .ne 5, 3) := by decide +kernel
theorem dX9_numbered_140 : decode cX9_numbered 140 = .ok (.iconst (-1), 1) := by decide +kernel
theorem dX9_numbered_141 : decode cX9_numbered 141 = .ok (.ireturn, 1) := by decide +kernel
theorem dX9_numbered_142 : decode cX9_numbered 142 = .ok (.aload_n 0, 1) := by decide +kernel
theorem dX9_numbered_143 : decode cX9_numbered 143 = .ok (.iload 4, 2) := by decide +kernel
theorem dX9_numbered_145 : decode cX9_numbered 145 = .ok (.iconst 1, 1) := by decide +kernel
theorem dX9_numbered_146 : decode cX9_numbered 146 = .ok (.iadd, 1) := by decide +kernel
theorem dX9_numbered_147 : decode cX9_numbered 147 = .ok (.putfield 9, 3) := by decide +kernel
theorem dX9_numbered_150 : decode cX9_numbered 150 = .ok (.iload 5, 2) := by decide +kernel
theorem dX9_numbered_152 : decode cX9_numbered 152 = .ok (.ireturn, 1) := by decide +kernel
theorem dX9_digit_0 : decode cX9_digit 0 = .ok (.iload_n 0, 1) := by decide +kernel
theorem dX9_digit_1 : decode cX9_digit 1 = .ok (.bipush 48, 2) := by decide +kernel
theorem dX9_digit_3 : decode cX9_digit 3 = .ok (.if_icmp .lt 14, 3) := by decide +kernel
theorem dX9_digit_6 : decode cX9_digit 6 = .ok (.iload_n 0, 1) := by decide +kernel
theorem dX9_digit_7 : decode cX9_digit 7 = .ok (.bipush 57, 2) := by decide +kernel
theorem dX9_digit_9 : decode cX9_digit 9 = .ok (.if_icmp .gt 8, 3) := by decide +kernel
theorem dX9_digit_12 : decode cX9_digit 12 = .ok (.iload_n 0, 1) := by decide +kernel
theorem dX9_digit_13 : decode cX9_digit 13 = .ok (.bipush 48, 2) := by decide +kernel
theorem dX9_digit_15 : decode cX9_digit 15 = .ok (.isub, 1) := by decide +kernel
theorem dX9_digit_16 : decode cX9_digit 16 = .ok (.ireturn, 1) := by decide +kernel
theorem dX9_digit_17 : decode cX9_digit 17 = .ok (.iload_n 1, 1) := by decide +kernel
theorem dX9_digit_18 : decode cX9_digit 18 = .ok (.bipush 16, 2) := by decide +kernel
theorem dX9_digit_20 : decode cX9_digit 20 = .ok (.if_icmp .ne 23, 3) := by decide +kernel
theorem dX9_digit_23 : decode cX9_digit 23 = .ok (.iload_n 0, 1) := by decide +kernel
theorem dX9_digit_24 : decode cX9_digit 24 = .ok (.bipush 97, 2) := by decide +kernel
theorem dX9_digit_26 : decode cX9_digit 26 = .ok (.if_icmp .lt 17, 3) := by decide +kernel
theorem dX9_digit_29 : decode cX9_digit 29 = .ok (.iload_n 0, 1) := by decide +kernel
theorem dX9_digit_30 : decode cX9_digit 30 = .ok (.bipush 102, 2) := by decide +kernel
theorem dX9_digit_32 : decode cX9_digit 32 = .ok (.if_icmp .gt 11, 3) := by decide +kernel
theorem dX9_digit_35 : decode cX9_digit 35 = .ok (.iload_n 0, 1) := by decide +kernel
theorem dX9_digit_36 : decode cX9_digit 36 = .ok (.bipush 97, 2) := by decide +kernel
theorem dX9_digit_38 : decode cX9_digit 38 = .ok (.isub, 1) := by decide +kernel
theorem dX9_digit_39 : decode cX9_digit 39 = .ok (.bipush 10, 2) := by decide +kernel
theorem dX9_digit_41 : decode cX9_digit 41 = .ok (.iadd, 1) := by decide +kernel
theorem dX9_digit_42 : decode cX9_digit 42 = .ok (.ireturn, 1) := by decide +kernel
theorem dX9_digit_43 : decode cX9_digit 43 = .ok (.iload_n 1, 1) := by decide +kernel
theorem dX9_digit_44 : decode cX9_digit 44 = .ok (.bipush 16, 2) := by decide +kernel
theorem dX9_digit_46 : decode cX9_digit 46 = .ok (.if_icmp .ne 23, 3) := by decide +kernel
theorem dX9_digit_49 : decode cX9_digit 49 = .ok (.iload_n 0, 1) := by decide +kernel
theorem dX9_digit_50 : decode cX9_digit 50 = .ok (.bipush 65, 2) := by decide +kernel
theorem dX9_digit_52 : decode cX9_digit 52 = .ok (.if_icmp .lt 17, 3) := by decide +kernel
theorem dX9_digit_55 : decode cX9_digit 55 = .ok (.iload_n 0, 1) := by decide +kernel
theorem dX9_digit_56 : decode cX9_digit 56 = .ok (.bipush 70, 2) := by decide +kernel
theorem dX9_digit_58 : decode cX9_digit 58 = .ok (.if_icmp .gt 11, 3) := by decide +kernel
theorem dX9_digit_61 : decode cX9_digit 61 = .ok (.iload_n 0, 1) := by decide +kernel
theorem dX9_digit_62 : decode cX9_digit 62 = .ok (.bipush 65, 2) := by decide +kernel
theorem dX9_digit_64 : decode cX9_digit 64 = .ok (.isub, 1) := by decide +kernel
theorem dX9_digit_65 : decode cX9_digit 65 = .ok (.bipush 10, 2) := by decide +kernel
theorem dX9_digit_67 : decode cX9_digit 67 = .ok (.iadd, 1) := by decide +kernel
theorem dX9_digit_68 : decode cX9_digit 68 = .ok (.ireturn, 1) := by decide +kernel
theorem dX9_digit_69 : decode cX9_digit 69 = .ok (.iconst (-1), 1) := by decide +kernel
theorem dX9_digit_70 : decode cX9_digit 70 = .ok (.ireturn, 1) := by decide +kernel
theorem dX9_comes_0 : decode cX9_comes 0 = .ok (.iconst 0, 1) := by decide +kernel
theorem dX9_comes_1 : decode cX9_comes 1 = .ok (.istore_n 2, 1) := by decide +kernel
theorem dX9_comes_2 : decode cX9_comes 2 = .ok (.iload_n 2, 1) := by decide +kernel
theorem dX9_comes_3 : decode cX9_comes 3 = .ok (.aload_n 1, 1) := by decide +kernel
theorem dX9_comes_4 : decode cX9_comes 4 = .ok (.invokevirtual 162, 3) := by decide +kernel
theorem dX9_comes_7 : decode cX9_comes 7 = .ok (.if_icmp .ge 32, 3) := by decide +kernel
theorem dX9_comes_10 : decode cX9_comes 10 = .ok (.aload_n 0, 1) := by decide +kernel
theorem dX9_comes_11 : decode cX9_comes 11 = .ok (.getfield 24, 3) := by decide +kernel
theorem dX9_comes_14 : decode cX9_comes 14 = .ok (.aload_n 0, 1) := by decide +kernel
theorem dX9_comes_15 : decode cX9_comes 15 = .ok (.getfield 9, 3) := by decide +kernel
theorem dX9_comes_18 : decode cX9_comes 18 = .ok (.iload_n 2, 1) := by decide +kernel
theorem dX9_comes_19 : decode cX9_comes 19 = .ok (.iadd, 1) := by decide +kernel
theorem dX9_comes_20 : decode cX9_comes 20 = .ok (.invokevirtual 47, 3) := by decide +kernel
theorem dX9_comes_23 : decode cX9_comes 23 = .ok (.aload_n 1, 1) := by decide +kernel
theorem dX9_comes_24 : decode cX9_comes 24 = .ok (.iload_n 2, 1) := by decide +kernel
theorem dX9_comes_25 : decode cX9_comes 25 = .ok (.invokevirtual 165, 3) := by decide +kernel
theorem dX9_comes_28 : decode cX9_comes 28 = .ok (.if_icmp .eq 5, 3) := by decide +kernel
theorem dX9_comes_31 : decode cX9_comes 31 = .ok (.iconst 0, 1) := by decide +kernel
theorem dX9_comes_32 : decode cX9_comes 32 = .ok (.ireturn, 1) := by decide +kernel
theorem dX9_comes_33 : decode cX9_comes 33 = .ok (.iinc 2 1, 3) := by decide +kernel
theorem dX9_comes_36 : decode cX9_comes 36 = .ok (.goto (-34), 3) := by decide +kernel
theorem dX9_comes_39 : decode cX9_comes 39 = .ok (.iconst 1, 1) := by decide +kernel
theorem dX9_comes_40 : decode cX9_comes 40 = .ok (.ireturn, 1) := by decide +kernel
theorem dX9_skipBlanks_0 : decode cX9_skipBlanks 0 = .ok (.aload_n 0, 1) := by decide +kernel
theorem dX9_skipBlanks_1 : decode cX9_skipBlanks 1 = .ok (.getfield 9, 3) := by decide +kernel
theorem dX9_skipBlanks_4 : decode cX9_skipBlanks 4 = .ok (.aload_n 0, 1) := by decide +kernel
theorem dX9_skipBlanks_5 : decode cX9_skipBlanks 5 = .ok (.getfield 24, 3) := by decide +kernel
theorem dX9_skipBlanks_8 : decode cX9_skipBlanks 8 = .ok (.invokevirtual 80, 3) := by decide +kernel
theorem dX9_skipBlanks_11 : decode cX9_skipBlanks 11 = .ok (.if_icmp .ge 33, 3) := by decide +kernel
theorem dX9_skipBlanks_14 : decode cX9_skipBlanks 14 = .ok (.aload_n 0, 1) := by decide +kernel
theorem dX9_skipBlanks_15 : decode cX9_skipBlanks 15 = .ok (.getfield 24, 3) := by decide +kernel
theorem dX9_skipBlanks_18 : decode cX9_skipBlanks 18 = .ok (.aload_n 0, 1) := by decide +kernel
theorem dX9_skipBlanks_19 : decode cX9_skipBlanks 19 = .ok (.getfield 9, 3) := by decide +kernel
theorem dX9_skipBlanks_22 : decode cX9_skipBlanks 22 = .ok (.invokevirtual 47, 3) := by decide +kernel
theorem dX9_skipBlanks_25 : decode cX9_skipBlanks 25 = .ok (.invokestatic 169, 3) := by decide +kernel
theorem dX9_skipBlanks_28 : decode cX9_skipBlanks 28 = .ok (.ifCond .eq 16, 3) := by decide +kernel
theorem dX9_skipBlanks_31 : decode cX9_skipBlanks 31 = .ok (.aload_n 0, 1) := by decide +kernel
theorem dX9_skipBlanks_32 : decode cX9_skipBlanks 32 = .ok (.dup, 1) := by decide +kernel
theorem dX9_skipBlanks_33 : decode cX9_skipBlanks 33 = .ok (.getfield 9, 3) := by decide +kernel
theorem dX9_skipBlanks_36 : decode cX9_skipBlanks 36 = .ok (.iconst 1, 1) := by decide +kernel
theorem dX9_skipBlanks_37 : decode cX9_skipBlanks 37 = .ok (.iadd, 1) := by decide +kernel
theorem dX9_skipBlanks_38 : decode cX9_skipBlanks 38 = .ok (.putfield 9, 3) := by decide +kernel
theorem dX9_skipBlanks_41 : decode cX9_skipBlanks 41 = .ok (.goto (-41), 3) := by decide +kernel
theorem dX9_skipBlanks_44 : decode cX9_skipBlanks 44 = .ok (.return_, 1) := by decide +kernel
theorem dX9_skipName_0 : decode cX9_skipName 0 = .ok (.aload_n 0, 1) := by decide +kernel
theorem dX9_skipName_1 : decode cX9_skipName 1 = .ok (.getfield 24, 3) := by decide +kernel
theorem dX9_skipName_4 : decode cX9_skipName 4 = .ok (.aload_n 0, 1) := by decide +kernel
theorem dX9_skipName_5 : decode cX9_skipName 5 = .ok (.getfield 9, 3) := by decide +kernel
theorem dX9_skipName_8 : decode cX9_skipName 8 = .ok (.invokevirtual 47, 3) := by decide +kernel
theorem dX9_skipName_11 : decode cX9_skipName 11 = .ok (.invokestatic 101, 3) := by decide +kernel
theorem dX9_skipName_14 : decode cX9_skipName 14 = .ok (.ifCond .ne 4, 3) := by decide +kernel
theorem dX9_skipName_17 : decode cX9_skipName 17 = .ok (.return_, 1) := by decide +kernel
theorem dX9_skipName_18 : decode cX9_skipName 18 = .ok (.aload_n 0, 1) := by decide +kernel
theorem dX9_skipName_19 : decode cX9_skipName 19 = .ok (.getfield 9, 3) := by decide +kernel
theorem dX9_skipName_22 : decode cX9_skipName 22 = .ok (.aload_n 0, 1) := by decide +kernel
theorem dX9_skipName_23 : decode cX9_skipName 23 = .ok (.getfield 24, 3) := by decide +kernel
theorem dX9_skipName_26 : decode cX9_skipName 26 = .ok (.invokevirtual 80, 3) := by decide +kernel
theorem dX9_skipName_29 : decode cX9_skipName 29 = .ok (.if_icmp .ge 33, 3) := by decide +kernel
theorem dX9_skipName_32 : decode cX9_skipName 32 = .ok (.aload_n 0, 1) := by decide +kernel
theorem dX9_skipName_33 : decode cX9_skipName 33 = .ok (.getfield 24, 3) := by decide +kernel
theorem dX9_skipName_36 : decode cX9_skipName 36 = .ok (.aload_n 0, 1) := by decide +kernel
theorem dX9_skipName_37 : decode cX9_skipName 37 = .ok (.getfield 9, 3) := by decide +kernel
theorem dX9_skipName_40 : decode cX9_skipName 40 = .ok (.invokevirtual 47, 3) := by decide +kernel
theorem dX9_skipName_43 : decode cX9_skipName 43 = .ok (.invokestatic 172, 3) := by decide +kernel
theorem dX9_skipName_46 : decode cX9_skipName 46 = .ok (.ifCond .eq 16, 3) := by decide +kernel
theorem dX9_skipName_49 : decode cX9_skipName 49 = .ok (.aload_n 0, 1) := by decide +kernel
theorem dX9_skipName_50 : decode cX9_skipName 50 = .ok (.dup, 1) := by decide +kernel
theorem dX9_skipName_51 : decode cX9_skipName 51 = .ok (.getfield 9, 3) := by decide +kernel
theorem dX9_skipName_54 : decode cX9_skipName 54 = .ok (.iconst 1, 1) := by decide +kernel
theorem dX9_skipName_55 : decode cX9_skipName 55 = .ok (.iadd, 1) := by decide +kernel
theorem dX9_skipName_56 : decode cX9_skipName 56 = .ok (.putfield 9, 3) := by decide +kernel
theorem dX9_skipName_59 : decode cX9_skipName 59 = .ok (.goto (-41), 3) := by decide +kernel
theorem dX9_skipName_62 : decode cX9_skipName 62 = .ok (.return_, 1) := by decide +kernel
theorem dX9_isNameBegin_0 : decode cX9_isNameBegin 0 = .ok (.iload_n 0, 1) := by decide +kernel
theorem dX9_isNameBegin_1 : decode cX9_isNameBegin 1 = .ok (.invokestatic 175, 3) := by decide +kernel
theorem dX9_isNameBegin_4 : decode cX9_isNameBegin 4 = .ok (.ifCond .ne 9, 3) := by decide +kernel
theorem dX9_isNameBegin_7 : decode cX9_isNameBegin 7 = .ok (.iload_n 0, 1) := by decide +kernel
theorem dX9_isNameBegin_8 : decode cX9_isNameBegin 8 = .ok (.bipush 95, 2) := by decide +kernel
theorem dX9_isNameBegin_10 : decode cX9_isNameBegin 10 = .ok (.if_icmp .ne 7, 3) := by decide +kernel
theorem dX9_isNameBegin_13 : decode cX9_isNameBegin 13 = .ok (.iconst 1, 1) := by decide +kernel
theorem dX9_isNameBegin_14 : decode cX9_isNameBegin 14 = .ok (.goto 4, 3) := by decide +kernel
theorem dX9_isNameBegin_17 : decode cX9_isNameBegin 17 = .ok (.iconst 0, 1) := by decide +kernel
theorem dX9_isNameBegin_18 : decode cX9_isNameBegin 18 = .ok (.ireturn, 1) := by decide +kernel
theorem dX9_isNameSign_0 : decode cX9_isNameSign 0 = .ok (.iload_n 0, 1) := by decide +kernel
theorem dX9_isNameSign_1 : decode cX9_isNameSign 1 = .ok (.invokestatic 175, 3) := by decide +kernel
theorem dX9_isNameSign_4 : decode cX9_isNameSign 4 = .ok (.ifCond .ne 28, 3) := by decide +kernel
theorem dX9_isNameSign_7 : decode cX9_isNameSign 7 = .ok (.iload_n 0, 1) := by decide +kernel
theorem dX9_isNameSign_8 : decode cX9_isNameSign 8 = .ok (.invokestatic 178, 3) := by decide +kernel
theorem dX9_isNameSign_11 : decode cX9_isNameSign 11 = .ok (.ifCond .ne 21, 3) := by decide +kernel
theorem dX9_isNameSign_14 : decode cX9_isNameSign 14 = .ok (.iload_n 0, 1) := by decide +kernel
theorem dX9_isNameSign_15 : decode cX9_isNameSign 15 = .ok (.bipush 95, 2) := by decide +kernel
theorem dX9_isNameSign_17 : decode cX9_isNameSign 17 = .ok (.if_icmp .eq 15, 3) := by decide +kernel
theorem dX9_isNameSign_20 : decode cX9_isNameSign 20 = .ok (.iload_n 0, 1) := by decide +kernel
theorem dX9_isNameSign_21 : decode cX9_isNameSign 21 = .ok (.bipush 45, 2) := by decide +kernel
theorem dX9_isNameSign_23 : decode cX9_isNameSign 23 = .ok (.if_icmp .eq 9, 3) := by decide +kernel
theorem dX9_isNameSign_26 : decode cX9_isNameSign 26 = .ok (.iload_n 0, 1) := by decide +kernel
theorem dX9_isNameSign_27 : decode cX9_isNameSign 27 = .ok (.bipush 46, 2) := by decide +kernel
theorem dX9_isNameSign_29 : decode cX9_isNameSign 29 = .ok (.if_icmp .ne 7, 3) := by decide +kernel
theorem dX9_isNameSign_32 : decode cX9_isNameSign 32 = .ok (.iconst 1, 1) := by decide +kernel
theorem dX9_isNameSign_33 : decode cX9_isNameSign 33 = .ok (.goto 4, 3) := by decide +kernel
theorem dX9_isNameSign_36 : decode cX9_isNameSign 36 = .ok (.iconst 0, 1) := by decide +kernel
theorem dX9_isNameSign_37 : decode cX9_isNameSign 37 = .ok (.ireturn, 1) := by decide +kernel
theorem dX10_init_0 : decode cX10_init 0 = .ok (.aload_n 0, 1) := by decide +kernel
theorem dX10_init_1 : decode cX10_init 1 = .ok (.invokespecial 3, 3) := by decide +kernel
theorem dX10_init_4 : decode cX10_init 4 = .ok (.aload_n 0, 1) := by decide +kernel
theorem dX10_init_5 : decode cX10_init 5 = .ok (.new 9, 3) := by decide +kernel
theorem dX10_init_8 : decode cX10_init 8 = .ok (.dup, 1) := by decide +kernel
theorem dX10_init_9 : decode cX10_init 9 = .ok (.invokespecial 11, 3) := by decide +kernel
theorem dX10_init_12 : decode cX10_init 12 = .ok (.putfield 12, 3) := by decide +kernel
theorem dX10_init_15 : decode cX10_init 15 = .ok (.aload_n 0, 1) := by decide +kernel
theorem dX10_init_16 : decode cX10_init 16 = .ok (.new 16, 3) := by decide +kernel
theorem dX10_init_19 : decode cX10_init 19 = .ok (.dup, 1) := by decide +kernel
theorem dX10_init_20 : decode cX10_init 20 = .ok (.invokespecial 18, 3) := by decide +kernel
theorem dX10_init_23 : decode cX10_init 23 = .ok (.putfield 19, 3) := by decide +kernel
theorem dX10_init_26 : decode cX10_init 26 = .ok (.aload_n 0, 1) := by decide +kernel
theorem dX10_init_27 : decode cX10_init 27 = .ok (.new 9, 3) := by decide +kernel
theorem dX10_init_30 : decode cX10_init 30 = .ok (.dup, 1) := by decide +kernel
theorem dX10_init_31 : decode cX10_init 31 = .ok (.invokespecial 11, 3) := by decide +kernel
theorem dX10_init_34 : decode cX10_init 34 = .ok (.putfield 23, 3) := by decide +kernel
theorem dX10_init_37 : decode cX10_init 37 = .ok (.aload_n 0, 1) := by decide +kernel
theorem dX10_init_38 : decode cX10_init 38 = .ok (.new 9, 3) := by decide +kernel
theorem dX10_init_41 : decode cX10_init 41 = .ok (.dup, 1) := by decide +kernel
theorem dX10_init_42 : decode cX10_init 42 = .ok (.invokespecial 11, 3) := by decide +kernel
theorem dX10_init_45 : decode cX10_init 45 = .ok (.putfield 26, 3) := by decide +kernel
theorem dX10_init_48 : decode cX10_init 48 = .ok (.aload_n 0, 1) := by decide +kernel
theorem dX10_init_49 : decode cX10_init 49 = .ok (.new 29, 3) := by decide +kernel
theorem dX10_init_52 : decode cX10_init 52 = .ok (.dup, 1) := by decide +kernel
theorem dX10_init_53 : decode cX10_init 53 = .ok (.invokespecial 31, 3) := by decide +kernel
theorem dX10_init_56 : decode cX10_init 56 = .ok (.putfield 32, 3) := by decide +kernel
theorem dX10_init_59 : decode cX10_init 59 = .ok (.aload_n 0, 1) := by decide +kernel
theorem dX10_init_60 : decode cX10_init 60 = .ok (.new 29, 3) := by decide +kernel
theorem dX10_init_63 : decode cX10_init 63 = .ok (.dup, 1) := by decide +kernel
theorem dX10_init_64 : decode cX10_init 64 = .ok (.invokespecial 31, 3) := by decide +kernel
theorem dX10_init_67 : decode cX10_init 67 = .ok (.putfield 36, 3) := by decide +kernel
theorem dX10_init_70 : decode cX10_init 70 = .ok (.aload_n 0, 1) := by decide +kernel
theorem dX10_init_71 : decode cX10_init 71 = .ok (.new 39, 3) := by decide +kernel
theorem dX10_init_74 : decode cX10_init 74 = .ok (.dup, 1) := by decide +kernel
theorem dX10_init_75 : decode cX10_init 75 = .ok (.invokespecial 41, 3) := by decide +kernel
theorem dX10_init_78 : decode cX10_init 78 = .ok (.putfield 42, 3) := by decide +kernel
theorem dX10_init_81 : decode cX10_init 81 = .ok (.aload_n 0, 1) := by decide +kernel
theorem dX10_init_82 : decode cX10_init 82 = .ok (.new 39, 3) := by decide +kernel
theorem dX10_init_85 : decode cX10_init 85 = .ok (.dup, 1) := by decide +kernel
theorem dX10_init_86 : decode cX10_init 86 = .ok (.invokespecial 41, 3) := by decide +kernel
theorem dX10_init_89 : decode cX10_init 89 = .ok (.putfield 46, 3) := by decide +kernel
theorem dX10_init_92 : decode cX10_init 92 = .ok (.aload_n 0, 1) := by decide +kernel
theorem dX10_init_93 : decode cX10_init 93 = .ok (.new 39, 3) := by decide +kernel
theorem dX10_init_96 : decode cX10_init 96 = .ok (.dup, 1) := by decide +kernel
theorem dX10_init_97 : decode cX10_init 97 = .ok (.invokespecial 41, 3) := by decide +kernel
theorem dX10_init_100 : decode cX10_init 100 = .ok (.putfield 49, 3) := by decide +kernel
theorem dX10_init_103 : decode cX10_init 103 = .ok (.aload_n 0, 1) := by decide +kernel
theorem dX10_init_104 : decode cX10_init 104 = .ok (.bipush 10, 2) := by decide +kernel
theorem dX10_init_106 : decode cX10_init 106 = .ok (.putfield 52, 3) := by decide +kernel
theorem dX10_init_109 : decode cX10_init 109 = .ok (.return_, 1) := by decide +kernel
theorem dX10_unit_0 : decode cX10_unit 0 = .ok (.iload_n 1, 1) := by decide +kernel
theorem dX10_unit_1 : decode cX10_unit 1 = .ok (.invokestatic 56, 3) := by decide +kernel
theorem dX10_unit_4 : decode cX10_unit 4 = .ok (.ifCond .eq 18, 3) := by decide +kernel
theorem dX10_unit_7 : decode cX10_unit 7 = .ok (.aload_n 0, 1) := by decide +kernel
theorem dX10_unit_8 : decode cX10_unit 8 = .ok (.getfield 12, 3) := by decide +kernel
theorem dX10_unit_11 : decode cX10_unit 11 = .ok (.iload_n 1, 1) := by decide +kernel
theorem dX10_unit_12 : decode cX10_unit 12 = .ok (.invokevirtual 60, 3) := by decide +kernel
theorem dX10_unit_15 : decode cX10_unit 15 = .ok (.ifCond .eq 7, 3) := by decide +kernel
theorem dX10_unit_18 : decode cX10_unit 18 = .ok (.iconst 1, 1) := by decide +kernel
theorem dX10_unit_19 : decode cX10_unit 19 = .ok (.goto 4, 3) := by decide +kernel
theorem dX10_unit_22 : decode cX10_unit 22 = .ok (.iconst 0, 1) := by decide +kernel
theorem dX10_unit_23 : decode cX10_unit 23 = .ok (.ireturn, 1) := by decide +kernel
theorem dX10_classes_0 : decode cX10_classes 0 = .ok (.new 63, 3) := by decide +kernel
theorem dX10_classes_3 : decode cX10_classes 3 = .ok (.dup, 1) := by decide +kernel
theorem dX10_classes_4 : decode cX10_classes 4 = .ok (.aload_n 0, 1) := by decide +kernel
theorem dX10_classes_5 : decode cX10_classes 5 = .ok (.getfield 12, 3) := by decide +kernel
theorem dX10_classes_8 : decode cX10_classes 8 = .ok (.aload_n 0, 1) := by decide +kernel
theorem dX10_classes_9 : decode cX10_classes 9 = .ok (.getfield 36, 3) := by decide +kernel
theorem dX10_classes_12 : decode cX10_classes 12 = .ok (.invokespecial 65, 3) := by decide +kernel
theorem dX10_classes_15 : decode cX10_classes 15 = .ok (.invokevirtual 68, 3) := by decide +kernel
theorem dX10_classes_18 : decode cX10_classes 18 = .ok (.istore_n 1, 1) := by decide +kernel
theorem dX10_classes_19 : decode cX10_classes 19 = .ok (.aload_n 0, 1) := by decide +kernel
theorem dX10_classes_20 : decode cX10_classes 20 = .ok (.getfield 12, 3) := by decide +kernel
theorem dX10_classes_23 : decode cX10_classes 23 = .ok (.invokevirtual 72, 3) := by decide +kernel
theorem dX10_classes_26 : decode cX10_classes 26 = .ok (.iload_n 1, 1) := by decide +kernel
theorem dX10_classes_27 : decode cX10_classes 27 = .ok (.iconst (-1), 1) := by decide +kernel
theorem dX10_classes_28 : decode cX10_classes 28 = .ok (.if_icmp .eq 7, 3) := by decide +kernel
theorem dX10_classes_31 : decode cX10_classes 31 = .ok (.iconst (-1), 1) := by decide +kernel
theorem dX10_classes_32 : decode cX10_classes 32 = .ok (.iload_n 1, 1) := by decide +kernel
theorem dX10_classes_33 : decode cX10_classes 33 = .ok (.isub, 1) := by decide +kernel
theorem dX10_classes_34 : decode cX10_classes 34 = .ok (.ireturn, 1) := by decide +kernel
theorem dX10_classes_35 : decode cX10_classes 35 = .ok (.aload_n 0, 1) := by decide +kernel
theorem dX10_classes_36 : decode cX10_classes 36 = .ok (.getfield 32, 3) := by decide +kernel
theorem dX10_classes_39 : decode cX10_classes 39 = .ok (.astore_n 2, 1) := by decide +kernel
theorem dX10_classes_40 : decode cX10_classes 40 = .ok (.aload_n 0, 1) := by decide +kernel
theorem dX10_classes_41 : decode cX10_classes 41 = .ok (.aload_n 0, 1) := by decide +kernel
theorem dX10_classes_42 : decode cX10_classes 42 = .ok (.getfield 36, 3) := by decide +kernel
theorem dX10_classes_45 : decode cX10_classes 45 = .ok (.putfield 32, 3) := by decide +kernel
theorem dX10_classes_48 : decode cX10_classes 48 = .ok (.aload_n 0, 1) := by decide +kernel
theorem dX10_classes_49 : decode cX10_classes 49 = .ok (.aload_n 2, 1) := by decide +kernel
theorem dX10_classes_50 : decode cX10_classes 50 = .ok (.putfield 36, 3) := by decide +kernel
theorem dX10_classes_53 : decode cX10_classes 53 = .ok (.aload_n 0, 1) := by decide +kernel
theorem dX10_classes_54 : decode cX10_classes 54 = .ok (.getfield 42, 3) := by decide +kernel
theorem dX10_classes_57 : decode cX10_classes 57 = .ok (.invokevirtual 75, 3) := by decide +kernel
theorem dX10_classes_60 : decode cX10_classes 60 = .ok (.aload_n 0, 1) := by decide +kernel
theorem dX10_classes_61 : decode cX10_classes 61 = .ok (.getfield 46, 3) := by decide +kernel
theorem dX10_classes_64 : decode cX10_classes 64 = .ok (.invokevirtual 75, 3) := by decide +kernel
theorem dX10_classes_67 : decode cX10_classes 67 = .ok (.aload_n 0, 1) := by decide +kernel
theorem dX10_classes_68 : decode cX10_classes 68 = .ok (.getfield 23, 3) := by decide +kernel
theorem dX10_classes_71 : decode cX10_classes 71 = .ok (.invokevirtual 72, 3) := by decide +kernel
theorem dX10_classes_74 : decode cX10_classes 74 = .ok (.aload_n 0, 1) := by decide +kernel
theorem dX10_classes_75 : decode cX10_classes 75 = .ok (.getfield 32, 3) := by decide +kernel
theorem dX10_classes_78 : decode cX10_classes 78 = .ok (.invokevirtual 76, 3) := by decide +kernel
theorem dX10_classes_81 : decode cX10_classes 81 = .ok (.ireturn, 1) := by decide +kernel
theorem dX10_make_0 : decode cX10_make 0 = .ok (.aload_n 0, 1) := by decide +kernel
theorem dX10_make_1 : decode cX10_make 1 = .ok (.getfield 32, 3) := by decide +kernel
theorem dX10_make_4 : decode cX10_make 4 = .ok (.iload_n 1, 1) := by decide +kernel
theorem dX10_make_5 : decode cX10_make 5 = .ok (.invokevirtual 79, 3) := by decide +kernel
theorem dX10_make_8 : decode cX10_make 8 = .ok (.ifCond .eq 22, 3) := by decide +kernel
theorem dX10_make_11 : decode cX10_make 11 = .ok (.aload_n 0, 1) := by decide +kernel
theorem dX10_make_12 : decode cX10_make 12 = .ok (.getfield 42, 3) := by decide +kernel
theorem dX10_make_15 : decode cX10_make 15 = .ok (.iload_n 1, 1) := by decide +kernel
theorem dX10_make_16 : decode cX10_make 16 = .ok (.aload_n 0, 1) := by decide +kernel
theorem dX10_make_17 : decode cX10_make 17 = .ok (.getfield 32, 3) := by decide +kernel
theorem dX10_make_20 : decode cX10_make 20 = .ok (.iload_n 1, 1) := by decide +kernel
theorem dX10_make_21 : decode cX10_make 21 = .ok (.invokevirtual 82, 3) := by decide +kernel
theorem dX10_make_24 : decode cX10_make 24 = .ok (.invokevirtual 86, 3) := by decide +kernel
theorem dX10_make_27 : decode cX10_make 27 = .ok (.goto 4, 3) := by decide +kernel
theorem dX10_make_30 : decode cX10_make 30 = .ok (.iconst (-1), 1) := by decide +kernel
theorem dX10_make_31 : decode cX10_make 31 = .ok (.ireturn, 1) := by decide +kernel
theorem dX10_set_0 : decode cX10_set 0 = .ok (.aload_n 0, 1) := by decide +kernel
theorem dX10_set_1 : decode cX10_set 1 = .ok (.aload_n 0, 1) := by decide +kernel
theorem dX10_set_2 : decode cX10_set 2 = .ok (.getfield 42, 3) := by decide +kernel
theorem dX10_set_5 : decode cX10_set 5 = .ok (.iload_n 1, 1) := by decide +kernel
theorem dX10_set_6 : decode cX10_set 6 = .ok (.iload_n 2, 1) := by decide +kernel
theorem dX10_set_7 : decode cX10_set 7 = .ok (.invokevirtual 90, 3) := by decide +kernel
theorem dX10_set_10 : decode cX10_set 10 = .ok (.istore 4, 2) := by decide +kernel
theorem dX10_set_12 : decode cX10_set 12 = .ok (.iload 4, 2) := by decide +kernel
theorem dX10_set_14 : decode cX10_set 14 = .ok (.iconst 1, 1) := by decide +kernel
theorem dX10_set_15 : decode cX10_set 15 = .ok (.if_icmp .eq 26, 3) := by decide +kernel
theorem dX10_set_18 : decode cX10_set 18 = .ok (.iload 4, 2) := by decide +kernel
theorem dX10_set_20 : decode cX10_set 20 = .ok (.iconst 3, 1) := by decide +kernel
theorem dX10_set_21 : decode cX10_set 21 = .ok (.if_icmp .ne 24, 3) := by decide +kernel
theorem dX10_set_24 : decode cX10_set 24 = .ok (.iload_n 3, 1) := by decide +kernel
theorem dX10_set_25 : decode cX10_set 25 = .ok (.bipush (-2), 2) := by decide +kernel
theorem dX10_set_27 : decode cX10_set 27 = .ok (.if_icmp .eq 14, 3) := by decide +kernel
theorem dX10_set_30 : decode cX10_set 30 = .ok (.aload_n 0, 1) := by decide +kernel
theorem dX10_set_31 : decode cX10_set 31 = .ok (.getfield 42, 3) := by decide +kernel
theorem dX10_set_34 : decode cX10_set 34 = .ok (.iload_n 3, 1) := by decide +kernel
theorem dX10_set_35 : decode cX10_set 35 = .ok (.invokevirtual 94, 3) := by decide +kernel
theorem dX10_set_38 : decode cX10_set 38 = .ok (.ifCond .eq 7, 3) := by decide +kernel
theorem dX10_set_41 : decode cX10_set 41 = .ok (.iconst 1, 1) := by decide +kernel
theorem dX10_set_42 : decode cX10_set 42 = .ok (.goto 4, 3) := by decide +kernel
theorem dX10_set_45 : decode cX10_set 45 = .ok (.iconst 0, 1) := by decide +kernel
theorem dX10_set_46 : decode cX10_set 46 = .ok (.istore 5, 2) := by decide +kernel
theorem dX10_set_48 : decode cX10_set 48 = .ok (.iload 5, 2) := by decide +kernel
theorem dX10_set_50 : decode cX10_set 50 = .ok (.ifCond .eq 13, 3) := by decide +kernel
theorem dX10_set_53 : decode cX10_set 53 = .ok (.aload_n 0, 1) := by decide +kernel
theorem dX10_set_54 : decode cX10_set 54 = .ok (.getfield 42, 3) := by decide +kernel
theorem dX10_set_57 : decode cX10_set 57 = .ok (.iload_n 1, 1) := by decide +kernel
theorem dX10_set_58 : decode cX10_set 58 = .ok (.iload_n 2, 1) := by decide +kernel
theorem dX10_set_59 : decode cX10_set 59 = .ok (.iload_n 3, 1) := by decide +kernel
theorem dX10_set_60 : decode cX10_set 60 = .ok (.invokevirtual 97, 3) := by decide +kernel
theorem dX10_set_63 : decode cX10_set 63 = .ok (.iload 5, 2) := by decide +kernel
theorem dX10_set_65 : decode cX10_set 65 = .ok (.ireturn, 1) := by decide +kernel
theorem dX10_text_0 : decode cX10_text 0 = .ok (.aload_n 0, 1) := by decide +kernel
theorem dX10_text_1 : decode cX10_text 1 = .ok (.aload_n 0, 1) := by decide +kernel
theorem dX10_text_2 : decode cX10_text 2 = .ok (.getfield 42, 3) := by decide +kernel
theorem dX10_text_5 : decode cX10_text 5 = .ok (.iload_n 1, 1) := by decide +kernel
theorem dX10_text_6 : decode cX10_text 6 = .ok (.iload_n 2, 1) := by decide +kernel
theorem dX10_text_7 : decode cX10_text 7 = .ok (.invokevirtual 90, 3) := by decide +kernel
theorem dX10_text_10 : decode cX10_text 10 = .ok (.iconst 2, 1) := by decide +kernel
theorem dX10_text_11 : decode cX10_text 11 = .ok (.if_icmp .ne 21, 3) := by decide +kernel
theorem dX10_text_14 : decode cX10_text 14 = .ok (.aload_n 0, 1) := by decide +kernel
theorem dX10_text_15 : decode cX10_text 15 = .ok (.getfield 12, 3) := by decide +kernel
theorem dX10_text_18 : decode cX10_text 18 = .ok (.iconst 0, 1) := by decide +kernel
theorem dX10_text_19 : decode cX10_text 19 = .ok (.aload_n 0, 1) := by decide +kernel
theorem dX10_text_20 : decode cX10_text 20 = .ok (.getfield 12, 3) := by decide +kernel
theorem dX10_text_23 : decode cX10_text 23 = .ok (.invokevirtual 101, 3) := by decide +kernel
theorem dX10_text_26 : decode cX10_text 26 = .ok (.invokestatic 104, 3) := by decide +kernel
theorem dX10_text_29 : decode cX10_text 29 = .ok (.ifCond .ne 5, 3) := by decide +kernel
theorem dX10_text_32 : decode cX10_text 32 = .ok (.iconst 0, 1) := by decide +kernel
theorem dX10_text_33 : decode cX10_text 33 = .ok (.ireturn, 1) := by decide +kernel
theorem dX10_text_34 : decode cX10_text 34 = .ok (.aload_n 0, 1) := by decide +kernel
theorem dX10_text_35 : decode cX10_text 35 = .ok (.getfield 42, 3) := by decide +kernel
theorem dX10_text_38 : decode cX10_text 38 = .ok (.iload_n 1, 1) := by decide +kernel
theorem dX10_text_39 : decode cX10_text 39 = .ok (.iload_n 2, 1) := by decide +kernel
theorem dX10_text_40 : decode cX10_text 40 = .ok (.aload_n 0, 1) := by decide +kernel
theorem dX10_text_41 : decode cX10_text 41 = .ok (.getfield 12, 3) := by decide +kernel
theorem dX10_text_44 : decode cX10_text 44 = .ok (.iconst 0, 1) := by decide +kernel
theorem dX10_text_45 : decode cX10_text 45 = .ok (.aload_n 0, 1) := by decide +kernel
theorem dX10_text_46 : decode cX10_text 46 = .ok (.getfield 12, 3) := by decide +kernel
theorem dX10_text_49 : decode cX10_text 49 = .ok (.invokevirtual 101, 3) := by decide +kernel
theorem dX10_text_52 : decode cX10_text 52 = .ok (.invokevirtual 108, 3) := by decide +kernel
theorem dX10_text_55 : decode cX10_text 55 = .ok (.aload_n 0, 1) := by decide +kernel
theorem dX10_text_56 : decode cX10_text 56 = .ok (.getfield 12, 3) := by decide +kernel
theorem dX10_text_59 : decode cX10_text 59 = .ok (.invokevirtual 72, 3) := by decide +kernel
theorem dX10_text_62 : decode cX10_text 62 = .ok (.iconst 1, 1) := by decide +kernel
theorem dX10_text_63 : decode cX10_text 63 = .ok (.ireturn, 1) := by decide +kernel
theorem dX10_add_0 : decode cX10_add 0 = .ok (.aload_n 0, 1) := by decide +kernel
theorem dX10_add_1 : decode cX10_add 1 = .ok (.aload_n 0, 1) := by decide +kernel
theorem dX10_add_2 : decode cX10_add 2 = .ok (.getfield 42, 3) := by decide +kernel
theorem dX10_add_5 : decode cX10_add 5 = .ok (.iload_n 1, 1) := by decide +kernel
theorem dX10_add_6 : decode cX10_add 6 = .ok (.iload_n 2, 1) := by decide +kernel
theorem dX10_add_7 : decode cX10_add 7 = .ok (.invokevirtual 90, 3) := by decide +kernel
theorem dX10_add_10 : decode cX10_add 10 = .ok (.iconst 4, 1) := by decide +kernel
theorem dX10_add_11 : decode cX10_add 11 = .ok (.if_icmp .ne 14, 3) := by decide +kernel
theorem dX10_add_14 : decode cX10_add 14 = .ok (.aload_n 0, 1) := by decide +kernel
theorem dX10_add_15 : decode cX10_add 15 = .ok (.getfield 42, 3) := by decide +kernel
theorem dX10_add_18 : decode cX10_add 18 = .ok (.iload_n 3, 1) := by decide +kernel
theorem dX10_add_19 : decode cX10_add 19 = .ok (.invokevirtual 94, 3) := by decide +kernel
theorem dX10_add_22 : decode cX10_add 22 = .ok (.ifCond .ne 5, 3) := by decide +kernel
theorem dX10_add_25 : decode cX10_add 25 = .ok (.iconst (-1), 1) := by decide +kernel
theorem dX10_add_26 : decode cX10_add 26 = .ok (.ireturn, 1) := by decide +kernel
theorem dX10_add_27 : decode cX10_add 27 = .ok (.aload_n 0, 1) := by decide +kernel
theorem dX10_add_28 : decode cX10_add 28 = .ok (.getfield 42, 3) := by decide +kernel
theorem dX10_add_31 : decode cX10_add 31 = .ok (.iload_n 1, 1) := by decide +kernel
theorem dX10_add_32 : decode cX10_add 32 = .ok (.iload_n 2, 1) := by decide +kernel
theorem dX10_add_33 : decode cX10_add 33 = .ok (.iload_n 3, 1) := by decide +kernel
theorem dX10_add_34 : decode cX10_add 34 = .ok (.invokevirtual 112, 3) := by decide +kernel
theorem dX10_add_37 : decode cX10_add 37 = .ok (.ireturn, 1) := by decide +kernel
theorem dX10_limit_0 : decode cX10_limit 0 = .ok (.iload_n 1, 1) := by decide +kernel
theorem dX10_limit_1 : decode cX10_limit 1 = .ok (.iconst 1, 1) := by decide +kernel
theorem dX10_limit_2 : decode cX10_limit 2 = .ok (.if_icmp .lt 9, 3) := by decide +kernel
theorem dX10_limit_5 : decode cX10_limit 5 = .ok (.iload_n 1, 1) := by decide +kernel
theorem dX10_limit_6 : decode cX10_limit 6 = .ok (.bipush 20, 2) := by decide +kernel
theorem dX10_limit_8 : decode cX10_limit 8 = .ok (.if_icmp .le 5, 3) := by decide +kernel
theorem dX10_limit_11 : decode cX10_limit 11 = .ok (.iconst (-1), 1) := by decide +kernel
theorem dX10_limit_12 : decode cX10_limit 12 = .ok (.ireturn, 1) := by decide +kernel
theorem dX10_limit_13 : decode cX10_limit 13 = .ok (.aload_n 0, 1) := by decide +kernel
theorem dX10_limit_14 : decode cX10_limit 14 = .ok (.getfield 52, 3) := by decide +kernel
theorem dX10_limit_17 : decode cX10_limit 17 = .ok (.istore_n 2, 1) := by decide +kernel
theorem dX10_limit_18 : decode cX10_limit 18 = .ok (.aload_n 0, 1) := by decide +kernel
theorem dX10_limit_19 : decode cX10_limit 19 = .ok (.iload_n 1, 1) := by decide +kernel
theorem dX10_limit_20 : decode cX10_limit 20 = .ok (.putfield 52, 3) := by decide +kernel
theorem dX10_limit_23 : decode cX10_limit 23 = .ok (.iload_n 2, 1) := by decide +kernel
theorem dX10_limit_24 : decode cX10_limit 24 = .ok (.ireturn, 1) := by decide +kernel
theorem dX10_write_0 : decode cX10_write 0 = .ok (.aload_n 0, 1) := by decide +kernel
theorem dX10_write_1 : decode cX10_write 1 = .ok (.getfield 42, 3) := by decide +kernel
theorem dX10_write_4 : decode cX10_write 4 = .ok (.iload_n 1, 1) := by decide +kernel
theorem dX10_write_5 : decode cX10_write 5 = .ok (.invokevirtual 94, 3) := by decide +kernel
theorem dX10_write_8 : decode cX10_write 8 = .ok (.ifCond .eq 12, 3) := by decide +kernel
theorem dX10_write_11 : decode cX10_write 11 = .ok (.iload_n 2, 1) := by decide +kernel
theorem dX10_write_12 : decode cX10_write 12 = .ok (.ifCond .lt 8, 3) := by decide +kernel
theorem dX10_write_15 : decode cX10_write 15 = .ok (.iload_n 2, 1) := by decide +kernel
theorem dX10_write_16 : decode cX10_write 16 = .ok (.iconst 3, 1) := by decide +kernel
theorem dX10_write_17 : decode cX10_write 17 = .ok (.if_icmp .le 5, 3) := by decide +kernel
theorem dX10_write_20 : decode cX10_write 20 = .ok (.iconst (-1), 1) := by decide +kernel
theorem dX10_write_21 : decode cX10_write 21 = .ok (.ireturn, 1) := by decide +kernel
theorem dX10_write_22 : decode cX10_write 22 = .ok (.aload_n 0, 1) := by decide +kernel
theorem dX10_write_23 : decode cX10_write 23 = .ok (.getfield 26, 3) := by decide +kernel
theorem dX10_write_26 : decode cX10_write 26 = .ok (.invokevirtual 72, 3) := by decide +kernel
theorem dX10_write_29 : decode cX10_write 29 = .ok (.new 116, 3) := by decide +kernel
theorem dX10_write_32 : decode cX10_write 32 = .ok (.dup, 1) := by decide +kernel
theorem dX10_write_33 : decode cX10_write 33 = .ok (.aload_n 0, 1) := by decide +kernel
theorem dX10_write_34 : decode cX10_write 34 = .ok (.getfield 32, 3) := by decide +kernel
theorem dX10_write_37 : decode cX10_write 37 = .ok (.aload_n 0, 1) := by decide +kernel
theorem dX10_write_38 : decode cX10_write 38 = .ok (.getfield 42, 3) := by decide +kernel
theorem dX10_write_41 : decode cX10_write 41 = .ok (.aload_n 0, 1) := by decide +kernel
theorem dX10_write_42 : decode cX10_write 42 = .ok (.getfield 26, 3) := by decide +kernel
theorem dX10_write_45 : decode cX10_write 45 = .ok (.iload_n 2, 1) := by decide +kernel
theorem dX10_write_46 : decode cX10_write 46 = .ok (.aload_n 0, 1) := by decide +kernel
theorem dX10_write_47 : decode cX10_write 47 = .ok (.getfield 52, 3) := by decide +kernel
theorem dX10_write_50 : decode cX10_write 50 = .ok (.invokespecial 118, 3) := by decide +kernel
theorem dX10_write_53 : decode cX10_write 53 = .ok (.astore_n 3, 1) := by decide +kernel
theorem dX10_write_54 : decode cX10_write 54 = .ok (.aload_n 3, 1) := by decide +kernel
theorem dX10_write_55 : decode cX10_write 55 = .ok (.iload_n 1, 1) := by decide +kernel
theorem dX10_write_56 : decode cX10_write 56 = .ok (.bipush (-2), 2) := by decide +kernel
theorem dX10_write_58 : decode cX10_write 58 = .ok (.iconst 0, 1) := by decide +kernel
theorem dX10_write_59 : decode cX10_write 59 = .ok (.iconst 0, 1) := by decide +kernel
theorem dX10_write_60 : decode cX10_write 60 = .ok (.iconst 0, 1) := by decide +kernel
theorem dX10_write_61 : decode cX10_write 61 = .ok (.invokevirtual 121, 3) := by decide +kernel
theorem dX10_write_64 : decode cX10_write 64 = .ok (.aload_n 3, 1) := by decide +kernel
theorem dX10_write_65 : decode cX10_write 65 = .ok (.invokevirtual 125, 3) := by decide +kernel
theorem dX10_write_68 : decode cX10_write 68 = .ok (.ifCond .eq 8, 3) := by decide +kernel
theorem dX10_write_71 : decode cX10_write 71 = .ok (.aload_n 3, 1) := by decide +kernel
theorem dX10_write_72 : decode cX10_write 72 = .ok (.invokevirtual 125, 3) := by decide +kernel
theorem dX10_write_75 : decode cX10_write 75 = .ok (.ireturn, 1) := by decide +kernel
theorem dX10_write_76 : decode cX10_write 76 = .ok (.aload_n 0, 1) := by decide +kernel
theorem dX10_write_77 : decode cX10_write 77 = .ok (.getfield 23, 3) := by decide +kernel
theorem dX10_write_80 : decode cX10_write 80 = .ok (.astore 4, 2) := by decide +kernel
theorem dX10_write_82 : decode cX10_write 82 = .ok (.aload_n 0, 1) := by decide +kernel
theorem dX10_write_83 : decode cX10_write 83 = .ok (.aload_n 0, 1) := by decide +kernel
theorem dX10_write_84 : decode cX10_write 84 = .ok (.getfield 26, 3) := by decide +kernel
theorem dX10_write_87 : decode cX10_write 87 = .ok (.putfield 23, 3) := by decide +kernel
theorem dX10_write_90 : decode cX10_write 90 = .ok (.aload_n 0, 1) := by decide +kernel
theorem dX10_write_91 : decode cX10_write 91 = .ok (.aload 4, 2) := by decide +kernel
theorem dX10_write_93 : decode cX10_write 93 = .ok (.putfield 26, 3) := by decide +kernel
theorem dX10_write_96 : decode cX10_write 96 = .ok (.aload_n 0, 1) := by decide +kernel
theorem dX10_write_97 : decode cX10_write 97 = .ok (.getfield 23, 3) := by decide +kernel
theorem dX10_write_100 : decode cX10_write 100 = .ok (.invokevirtual 101, 3) := by decide +kernel
theorem dX10_write_103 : decode cX10_write 103 = .ok (.ireturn, 1) := by decide +kernel
theorem dX10_sign_0 : decode cX10_sign 0 = .ok (.aload_n 0, 1) := by decide +kernel
theorem dX10_sign_1 : decode cX10_sign 1 = .ok (.getfield 23, 3) := by decide +kernel
theorem dX10_sign_4 : decode cX10_sign 4 = .ok (.iload_n 1, 1) := by decide +kernel
theorem dX10_sign_5 : decode cX10_sign 5 = .ok (.invokevirtual 128, 3) := by decide +kernel
theorem dX10_sign_8 : decode cX10_sign 8 = .ok (.ifCond .eq 14, 3) := by decide +kernel
theorem dX10_sign_11 : decode cX10_sign 11 = .ok (.aload_n 0, 1) := by decide +kernel
theorem dX10_sign_12 : decode cX10_sign 12 = .ok (.getfield 23, 3) := by decide +kernel
theorem dX10_sign_15 : decode cX10_sign 15 = .ok (.iload_n 1, 1) := by decide +kernel
theorem dX10_sign_16 : decode cX10_sign 16 = .ok (.invokevirtual 129, 3) := by decide +kernel
theorem dX10_sign_19 : decode cX10_sign 19 = .ok (.goto 4, 3) := by decide +kernel
theorem dX10_sign_22 : decode cX10_sign 22 = .ok (.iconst (-1), 1) := by decide +kernel
theorem dX10_sign_23 : decode cX10_sign 23 = .ok (.ireturn, 1) := by decide +kernel
theorem dX10_take_0 : decode cX10_take 0 = .ok (.aload_n 0, 1) := by decide +kernel
theorem dX10_take_1 : decode cX10_take 1 = .ok (.getfield 12, 3) := by decide +kernel
theorem dX10_take_4 : decode cX10_take 4 = .ok (.aload_n 0, 1) := by decide +kernel
theorem dX10_take_5 : decode cX10_take 5 = .ok (.getfield 23, 3) := by decide +kernel
theorem dX10_take_8 : decode cX10_take 8 = .ok (.invokevirtual 132, 3) := by decide +kernel
theorem dX10_take_11 : decode cX10_take 11 = .ok (.aload_n 0, 1) := by decide +kernel
theorem dX10_take_12 : decode cX10_take 12 = .ok (.getfield 12, 3) := by decide +kernel
theorem dX10_take_15 : decode cX10_take 15 = .ok (.invokevirtual 101, 3) := by decide +kernel
theorem dX10_take_18 : decode cX10_take 18 = .ok (.ireturn, 1) := by decide +kernel
theorem dX10_forbid_0 : decode cX10_forbid 0 = .ok (.aload_n 0, 1) := by decide +kernel
theorem dX10_forbid_1 : decode cX10_forbid 1 = .ok (.getfield 32, 3) := by decide +kernel
theorem dX10_forbid_4 : decode cX10_forbid 4 = .ok (.iload_n 1, 1) := by decide +kernel
theorem dX10_forbid_5 : decode cX10_forbid 5 = .ok (.invokevirtual 136, 3) := by decide +kernel
theorem dX10_forbid_8 : decode cX10_forbid 8 = .ok (.istore_n 3, 1) := by decide +kernel
theorem dX10_forbid_9 : decode cX10_forbid 9 = .ok (.aload_n 0, 1) := by decide +kernel
theorem dX10_forbid_10 : decode cX10_forbid 10 = .ok (.getfield 32, 3) := by decide +kernel
theorem dX10_forbid_13 : decode cX10_forbid 13 = .ok (.iload_n 1, 1) := by decide +kernel
theorem dX10_forbid_14 : decode cX10_forbid 14 = .ok (.iload_n 2, 1) := by decide +kernel
theorem dX10_forbid_15 : decode cX10_forbid 15 = .ok (.invokevirtual 139, 3) := by decide +kernel
theorem dX10_forbid_18 : decode cX10_forbid 18 = .ok (.iload_n 3, 1) := by decide +kernel
theorem dX10_forbid_19 : decode cX10_forbid 19 = .ok (.ireturn, 1) := by decide +kernel
theorem dX10_read_0 : decode cX10_read 0 = .ok (.aload_n 0, 1) := by decide +kernel
theorem dX10_read_1 : decode cX10_read 1 = .ok (.getfield 32, 3) := by decide +kernel
theorem dX10_read_4 : decode cX10_read 4 = .ok (.invokevirtual 76, 3) := by decide +kernel
theorem dX10_read_7 : decode cX10_read 7 = .ok (.ifCond .ne 7, 3) := by decide +kernel
theorem dX10_read_10 : decode cX10_read 10 = .ok (.sipush (-3001), 3) := by decide +kernel
theorem dX10_read_13 : decode cX10_read 13 = .ok (.ireturn, 1) := by decide +kernel
theorem dX10_read_14 : decode cX10_read 14 = .ok (.new 143, 3) := by decide +kernel
theorem dX10_read_17 : decode cX10_read 17 = .ok (.dup, 1) := by decide +kernel
theorem dX10_read_18 : decode cX10_read 18 = .ok (.aload_n 0, 1) := by decide +kernel
theorem dX10_read_19 : decode cX10_read 19 = .ok (.getfield 12, 3) := by decide +kernel
theorem dX10_read_22 : decode cX10_read 22 = .ok (.aload_n 0, 1) := by decide +kernel
theorem dX10_read_23 : decode cX10_read 23 = .ok (.getfield 19, 3) := by decide +kernel
theorem dX10_read_26 : decode cX10_read 26 = .ok (.invokespecial 145, 3) := by decide +kernel
theorem dX10_read_29 : decode cX10_read 29 = .ok (.invokevirtual 148, 3) := by decide +kernel
theorem dX10_read_32 : decode cX10_read 32 = .ok (.istore_n 1, 1) := by decide +kernel
theorem dX10_read_33 : decode cX10_read 33 = .ok (.iload_n 1, 1) := by decide +kernel
theorem dX10_read_34 : decode cX10_read 34 = .ok (.iconst (-1), 1) := by decide +kernel
theorem dX10_read_35 : decode cX10_read 35 = .ok (.if_icmp .ne 28, 3) := by decide +kernel
theorem dX10_read_38 : decode cX10_read 38 = .ok (.new 149, 3) := by decide +kernel
theorem dX10_read_41 : decode cX10_read 41 = .ok (.dup, 1) := by decide +kernel
theorem dX10_read_42 : decode cX10_read 42 = .ok (.aload_n 0, 1) := by decide +kernel
theorem dX10_read_43 : decode cX10_read 43 = .ok (.getfield 32, 3) := by decide +kernel
theorem dX10_read_46 : decode cX10_read 46 = .ok (.aload_n 0, 1) := by decide +kernel
theorem dX10_read_47 : decode cX10_read 47 = .ok (.getfield 19, 3) := by decide +kernel
theorem dX10_read_50 : decode cX10_read 50 = .ok (.aload_n 0, 1) := by decide +kernel
theorem dX10_read_51 : decode cX10_read 51 = .ok (.getfield 49, 3) := by decide +kernel
theorem dX10_read_54 : decode cX10_read 54 = .ok (.invokespecial 151, 3) := by decide +kernel
theorem dX10_read_57 : decode cX10_read 57 = .ok (.invokevirtual 154, 3) := by decide +kernel
theorem dX10_read_60 : decode cX10_read 60 = .ok (.goto 4, 3) := by decide +kernel
theorem dX10_read_63 : decode cX10_read 63 = .ok (.iconst (-1), 1) := by decide +kernel
theorem dX10_read_64 : decode cX10_read 64 = .ok (.istore_n 2, 1) := by decide +kernel
theorem dX10_read_65 : decode cX10_read 65 = .ok (.aload_n 0, 1) := by decide +kernel
theorem dX10_read_66 : decode cX10_read 66 = .ok (.getfield 12, 3) := by decide +kernel
theorem dX10_read_69 : decode cX10_read 69 = .ok (.invokevirtual 72, 3) := by decide +kernel
theorem dX10_read_72 : decode cX10_read 72 = .ok (.iload_n 1, 1) := by decide +kernel
theorem dX10_read_73 : decode cX10_read 73 = .ok (.iconst (-1), 1) := by decide +kernel
theorem dX10_read_74 : decode cX10_read 74 = .ok (.if_icmp .eq 7, 3) := by decide +kernel
theorem dX10_read_77 : decode cX10_read 77 = .ok (.iconst (-1), 1) := by decide +kernel
theorem dX10_read_78 : decode cX10_read 78 = .ok (.iload_n 1, 1) := by decide +kernel
theorem dX10_read_79 : decode cX10_read 79 = .ok (.isub, 1) := by decide +kernel
theorem dX10_read_80 : decode cX10_read 80 = .ok (.ireturn, 1) := by decide +kernel
theorem dX10_read_81 : decode cX10_read 81 = .ok (.iload_n 2, 1) := by decide +kernel
theorem dX10_read_82 : decode cX10_read 82 = .ok (.iconst (-1), 1) := by decide +kernel
theorem dX10_read_83 : decode cX10_read 83 = .ok (.if_icmp .eq 16, 3) := by decide +kernel
theorem dX10_read_86 : decode cX10_read 86 = .ok (.sipush (-10001), 3) := by decide +kernel
theorem dX10_read_89 : decode cX10_read 89 = .ok (.aload_n 0, 1) := by decide +kernel
theorem dX10_read_90 : decode cX10_read 90 = .ok (.getfield 19, 3) := by decide +kernel
theorem dX10_read_93 : decode cX10_read 93 = .ok (.iload_n 2, 1) := by decide +kernel
theorem dX10_read_94 : decode cX10_read 94 = .ok (.invokevirtual 155, 3) := by decide +kernel
theorem dX10_read_97 : decode cX10_read 97 = .ok (.isub, 1) := by decide +kernel
theorem dX10_read_98 : decode cX10_read 98 = .ok (.ireturn, 1) := by decide +kernel
theorem dX10_read_99 : decode cX10_read 99 = .ok (.aload_n 0, 1) := by decide +kernel
theorem dX10_read_100 : decode cX10_read 100 = .ok (.getfield 46, 3) := by decide +kernel
theorem dX10_read_103 : decode cX10_read 103 = .ok (.astore_n 3, 1) := by decide +kernel
theorem dX10_read_104 : decode cX10_read 104 = .ok (.aload_n 0, 1) := by decide +kernel
theorem dX10_read_105 : decode cX10_read 105 = .ok (.aload_n 0, 1) := by decide +kernel
theorem dX10_read_106 : decode cX10_read 106 = .ok (.getfield 49, 3) := by decide +kernel
theorem dX10_read_109 : decode cX10_read 109 = .ok (.putfield 46, 3) := by decide +kernel
theorem dX10_read_112 : decode cX10_read 112 = .ok (.aload_n 0, 1) := by decide +kernel
theorem dX10_read_113 : decode cX10_read 113 = .ok (.aload_n 3, 1) := by decide +kernel
theorem dX10_read_114 : decode cX10_read 114 = .ok (.putfield 49, 3) := by decide +kernel
theorem dX10_read_117 : decode cX10_read 117 = .ok (.aload_n 0, 1) := by decide +kernel
theorem dX10_read_118 : decode cX10_read 118 = .ok (.getfield 46, 3) := by decide +kernel
theorem dX10_read_121 : decode cX10_read 121 = .ok (.invokevirtual 158, 3) := by decide +kernel
theorem dX10_read_124 : decode cX10_read 124 = .ok (.ireturn, 1) := by decide +kernel
theorem dX10_same_0 : decode cX10_same 0 = .ok (.aload_n 0, 1) := by decide +kernel
theorem dX10_same_1 : decode cX10_same 1 = .ok (.getfield 42, 3) := by decide +kernel
theorem dX10_same_4 : decode cX10_same 4 = .ok (.iload_n 1, 1) := by decide +kernel
theorem dX10_same_5 : decode cX10_same 5 = .ok (.invokevirtual 94, 3) := by decide +kernel
theorem dX10_same_8 : decode cX10_same 8 = .ok (.ifCond .eq 45, 3) := by decide +kernel
theorem dX10_same_11 : decode cX10_same 11 = .ok (.aload_n 0, 1) := by decide +kernel
theorem dX10_same_12 : decode cX10_same 12 = .ok (.getfield 46, 3) := by decide +kernel
theorem dX10_same_15 : decode cX10_same 15 = .ok (.iconst 0, 1) := by decide +kernel
theorem dX10_same_16 : decode cX10_same 16 = .ok (.invokevirtual 94, 3) := by decide +kernel
theorem dX10_same_19 : decode cX10_same 19 = .ok (.ifCond .eq 34, 3) := by decide +kernel
theorem dX10_same_22 : decode cX10_same 22 = .ok (.new 159, 3) := by decide +kernel
theorem dX10_same_25 : decode cX10_same 25 = .ok (.dup, 1) := by decide +kernel
theorem dX10_same_26 : decode cX10_same 26 = .ok (.aload_n 0, 1) := by decide +kernel
theorem dX10_same_27 : decode cX10_same 27 = .ok (.getfield 32, 3) := by decide +kernel
theorem dX10_same_30 : decode cX10_same 30 = .ok (.aload_n 0, 1) := by decide +kernel
theorem dX10_same_31 : decode cX10_same 31 = .ok (.getfield 42, 3) := by decide +kernel
theorem dX10_same_34 : decode cX10_same 34 = .ok (.aload_n 0, 1) := by decide +kernel
theorem dX10_same_35 : decode cX10_same 35 = .ok (.getfield 46, 3) := by decide +kernel
theorem dX10_same_38 : decode cX10_same 38 = .ok (.invokespecial 161, 3) := by decide +kernel
theorem dX10_same_41 : decode cX10_same 41 = .ok (.iload_n 1, 1) := by decide +kernel
theorem dX10_same_42 : decode cX10_same 42 = .ok (.iconst 0, 1) := by decide +kernel
theorem dX10_same_43 : decode cX10_same 43 = .ok (.invokevirtual 164, 3) := by decide +kernel
theorem dX10_same_46 : decode cX10_same 46 = .ok (.ifCond .eq 7, 3) := by decide +kernel
theorem dX10_same_49 : decode cX10_same 49 = .ok (.iconst 1, 1) := by decide +kernel
theorem dX10_same_50 : decode cX10_same 50 = .ok (.goto 4, 3) := by decide +kernel
theorem dX10_same_53 : decode cX10_same 53 = .ok (.iconst 0, 1) := by decide +kernel
theorem dX10_same_54 : decode cX10_same 54 = .ok (.ireturn, 1) := by decide +kernel
theorem dX10_kind_0 : decode cX10_kind 0 = .ok (.iload_n 1, 1) := by decide +kernel
theorem dX10_kind_1 : decode cX10_kind 1 = .ok (.invokestatic 168, 3) := by decide +kernel
theorem dX10_kind_4 : decode cX10_kind 4 = .ok (.ifCond .eq 27, 3) := by decide +kernel
theorem dX10_kind_7 : decode cX10_kind 7 = .ok (.aload_n 0, 1) := by decide +kernel
theorem dX10_kind_8 : decode cX10_kind 8 = .ok (.iload_n 1, 1) := by decide +kernel
theorem dX10_kind_9 : decode cX10_kind 9 = .ok (.invokevirtual 171, 3) := by decide +kernel
theorem dX10_kind_12 : decode cX10_kind 12 = .ok (.iload_n 2, 1) := by decide +kernel
theorem dX10_kind_13 : decode cX10_kind 13 = .ok (.invokevirtual 94, 3) := by decide +kernel
theorem dX10_kind_16 : decode cX10_kind 16 = .ok (.ifCond .eq 15, 3) := by decide +kernel
theorem dX10_kind_19 : decode cX10_kind 19 = .ok (.aload_n 0, 1) := by decide +kernel
theorem dX10_kind_20 : decode cX10_kind 20 = .ok (.iload_n 1, 1) := by decide +kernel
theorem dX10_kind_21 : decode cX10_kind 21 = .ok (.invokevirtual 171, 3) := by decide +kernel
theorem dX10_kind_24 : decode cX10_kind 24 = .ok (.iload_n 2, 1) := by decide +kernel
theorem dX10_kind_25 : decode cX10_kind 25 = .ok (.invokevirtual 175, 3) := by decide +kernel
theorem dX10_kind_28 : decode cX10_kind 28 = .ok (.goto 4, 3) := by decide +kernel
theorem dX10_kind_31 : decode cX10_kind 31 = .ok (.iconst (-1), 1) := by decide +kernel
theorem dX10_kind_32 : decode cX10_kind 32 = .ok (.ireturn, 1) := by decide +kernel
theorem dX10_value_0 : decode cX10_value 0 = .ok (.iload_n 1, 1) := by decide +kernel
theorem dX10_value_1 : decode cX10_value 1 = .ok (.invokestatic 168, 3) := by decide +kernel
theorem dX10_value_4 : decode cX10_value 4 = .ok (.ifCond .ne 5, 3) := by decide +kernel
theorem dX10_value_7 : decode cX10_value 7 = .ok (.iconst 0, 1) := by decide +kernel
theorem dX10_value_8 : decode cX10_value 8 = .ok (.ireturn, 1) := by decide +kernel
theorem dX10_value_9 : decode cX10_value 9 = .ok (.aload_n 0, 1) := by decide +kernel
theorem dX10_value_10 : decode cX10_value 10 = .ok (.aload_n 0, 1) := by decide +kernel
theorem dX10_value_11 : decode cX10_value 11 = .ok (.iload_n 1, 1) := by decide +kernel
theorem dX10_value_12 : decode cX10_value 12 = .ok (.invokevirtual 171, 3) := by decide +kernel
theorem dX10_value_15 : decode cX10_value 15 = .ok (.iload_n 2, 1) := by decide +kernel
theorem dX10_value_16 : decode cX10_value 16 = .ok (.iload_n 3, 1) := by decide +kernel
theorem dX10_value_17 : decode cX10_value 17 = .ok (.invokevirtual 90, 3) := by decide +kernel
theorem dX10_value_20 : decode cX10_value 20 = .ok (.istore 5, 2) := by decide +kernel
theorem dX10_value_22 : decode cX10_value 22 = .ok (.iload 5, 2) := by decide +kernel
theorem dX10_value_24 : decode cX10_value 24 = .ok (.ifCond .ne 5, 3) := by decide +kernel
theorem dX10_value_27 : decode cX10_value 27 = .ok (.iconst 0, 1) := by decide +kernel
theorem dX10_value_28 : decode cX10_value 28 = .ok (.ireturn, 1) := by decide +kernel
theorem dX10_value_29 : decode cX10_value 29 = .ok (.iload 5, 2) := by decide +kernel
theorem dX10_value_31 : decode cX10_value 31 = .ok (.iconst 1, 1) := by decide +kernel
theorem dX10_value_32 : decode cX10_value 32 = .ok (.if_icmp .eq 9, 3) := by decide +kernel
theorem dX10_value_35 : decode cX10_value 35 = .ok (.iload 5, 2) := by decide +kernel
theorem dX10_value_37 : decode cX10_value 37 = .ok (.iconst 3, 1) := by decide +kernel
theorem dX10_value_38 : decode cX10_value 38 = .ok (.if_icmp .ne 7, 3) := by decide +kernel
theorem dX10_value_41 : decode cX10_value 41 = .ok (.iconst 1, 1) := by decide +kernel
theorem dX10_value_42 : decode cX10_value 42 = .ok (.goto 4, 3) := by decide +kernel
theorem dX10_value_45 : decode cX10_value 45 = .ok (.iconst 0, 1) := by decide +kernel
theorem dX10_value_46 : decode cX10_value 46 = .ok (.istore 6, 2) := by decide +kernel
theorem dX10_value_48 : decode cX10_value 48 = .ok (.iload 6, 2) := by decide +kernel
theorem dX10_value_50 : decode cX10_value 50 = .ok (.ifCond .eq 16, 3) := by decide +kernel
theorem dX10_value_53 : decode cX10_value 53 = .ok (.aload_n 0, 1) := by decide +kernel
theorem dX10_value_54 : decode cX10_value 54 = .ok (.iload_n 1, 1) := by decide +kernel
theorem dX10_value_55 : decode cX10_value 55 = .ok (.invokevirtual 171, 3) := by decide +kernel
theorem dX10_value_58 : decode cX10_value 58 = .ok (.iload_n 2, 1) := by decide +kernel
theorem dX10_value_59 : decode cX10_value 59 = .ok (.iload_n 3, 1) := by decide +kernel
theorem dX10_value_60 : decode cX10_value 60 = .ok (.invokevirtual 178, 3) := by decide +kernel
theorem dX10_value_63 : decode cX10_value 63 = .ok (.goto 15, 3) := by decide +kernel
theorem dX10_value_66 : decode cX10_value 66 = .ok (.aload_n 0, 1) := by decide +kernel
theorem dX10_value_67 : decode cX10_value 67 = .ok (.iload_n 1, 1) := by decide +kernel
theorem dX10_value_68 : decode cX10_value 68 = .ok (.invokevirtual 171, 3) := by decide +kernel
theorem dX10_value_71 : decode cX10_value 71 = .ok (.iload_n 2, 1) := by decide +kernel
theorem dX10_value_72 : decode cX10_value 72 = .ok (.iload_n 3, 1) := by decide +kernel
theorem dX10_value_73 : decode cX10_value 73 = .ok (.iload 4, 2) := by decide +kernel
theorem dX10_value_75 : decode cX10_value 75 = .ok (.invokevirtual 181, 3) := by decide +kernel
theorem dX10_value_78 : decode cX10_value 78 = .ok (.ireturn, 1) := by decide +kernel
theorem dX10_count_0 : decode cX10_count 0 = .ok (.iload_n 1, 1) := by decide +kernel
theorem dX10_count_1 : decode cX10_count 1 = .ok (.tableswitch 87 0 5 #[39, 47, 55, 63, 71, 79], 39) := by decide +kernel
theorem dX10_count_40 : decode cX10_count 40 = .ok (.aload_n 0, 1) := by decide +kernel
theorem dX10_count_41 : decode cX10_count 41 = .ok (.getfield 32, 3) := by decide +kernel
theorem dX10_count_44 : decode cX10_count 44 = .ok (.invokevirtual 76, 3) := by decide +kernel
theorem dX10_count_47 : decode cX10_count 47 = .ok (.ireturn, 1) := by decide +kernel
theorem dX10_count_48 : decode cX10_count 48 = .ok (.aload_n 0, 1) := by decide +kernel
theorem dX10_count_49 : decode cX10_count 49 = .ok (.getfield 42, 3) := by decide +kernel
theorem dX10_count_52 : decode cX10_count 52 = .ok (.invokevirtual 158, 3) := by decide +kernel
theorem dX10_count_55 : decode cX10_count 55 = .ok (.ireturn, 1) := by decide +kernel
theorem dX10_count_56 : decode cX10_count 56 = .ok (.aload_n 0, 1) := by decide +kernel
theorem dX10_count_57 : decode cX10_count 57 = .ok (.getfield 46, 3) := by decide +kernel
theorem dX10_count_60 : decode cX10_count 60 = .ok (.invokevirtual 158, 3) := by decide +kernel
theorem dX10_count_63 : decode cX10_count 63 = .ok (.ireturn, 1) := by decide +kernel
theorem dX10_count_64 : decode cX10_count 64 = .ok (.aload_n 0, 1) := by decide +kernel
theorem dX10_count_65 : decode cX10_count 65 = .ok (.getfield 23, 3) := by decide +kernel
theorem dX10_count_68 : decode cX10_count 68 = .ok (.invokevirtual 101, 3) := by decide +kernel
theorem dX10_count_71 : decode cX10_count 71 = .ok (.ireturn, 1) := by decide +kernel
theorem dX10_count_72 : decode cX10_count 72 = .ok (.aload_n 0, 1) := by decide +kernel
theorem dX10_count_73 : decode cX10_count 73 = .ok (.getfield 12, 3) := by decide +kernel
theorem dX10_count_76 : decode cX10_count 76 = .ok (.invokevirtual 101, 3) := by decide +kernel
theorem dX10_count_79 : decode cX10_count 79 = .ok (.ireturn, 1) := by decide +kernel
theorem dX10_count_80 : decode cX10_count 80 = .ok (.aload_n 0, 1) := by decide +kernel
theorem dX10_count_81 : decode cX10_count 81 = .ok (.getfield 32, 3) := by decide +kernel
theorem dX10_count_84 : decode cX10_count 84 = .ok (.invokevirtual 184, 3) := by decide +kernel
theorem dX10_count_87 : decode cX10_count 87 = .ok (.ireturn, 1) := by decide +kernel
theorem dX10_count_88 : decode cX10_count 88 = .ok (.iconst (-1), 1) := by decide +kernel
theorem dX10_count_89 : decode cX10_count 89 = .ok (.ireturn, 1) := by decide +kernel
theorem dX10_shapeIn_0 : decode cX10_shapeIn 0 = .ok (.aload_n 1, 1) := by decide +kernel
theorem dX10_shapeIn_1 : decode cX10_shapeIn 1 = .ok (.iload_n 2, 1) := by decide +kernel
theorem dX10_shapeIn_2 : decode cX10_shapeIn 2 = .ok (.invokevirtual 94, 3) := by decide +kernel
theorem dX10_shapeIn_5 : decode cX10_shapeIn 5 = .ok (.ifCond .eq 19, 3) := by decide +kernel
theorem dX10_shapeIn_8 : decode cX10_shapeIn 8 = .ok (.aload_n 0, 1) := by decide +kernel
theorem dX10_shapeIn_9 : decode cX10_shapeIn 9 = .ok (.getfield 32, 3) := by decide +kernel
theorem dX10_shapeIn_12 : decode cX10_shapeIn 12 = .ok (.aload_n 1, 1) := by decide +kernel
theorem dX10_shapeIn_13 : decode cX10_shapeIn 13 = .ok (.iload_n 2, 1) := by decide +kernel
theorem dX10_shapeIn_14 : decode cX10_shapeIn 14 = .ok (.invokevirtual 175, 3) := by decide +kernel
theorem dX10_shapeIn_17 : decode cX10_shapeIn 17 = .ok (.iload_n 3, 1) := by decide +kernel
theorem dX10_shapeIn_18 : decode cX10_shapeIn 18 = .ok (.invokevirtual 187, 3) := by decide +kernel
theorem dX10_shapeIn_21 : decode cX10_shapeIn 21 = .ok (.goto 4, 3) := by decide +kernel
theorem dX10_shapeIn_24 : decode cX10_shapeIn 24 = .ok (.iconst 0, 1) := by decide +kernel
theorem dX10_shapeIn_25 : decode cX10_shapeIn 25 = .ok (.ireturn, 1) := by decide +kernel
theorem dX10_heapAt_0 : decode cX10_heapAt 0 = .ok (.iload_n 1, 1) := by decide +kernel
theorem dX10_heapAt_1 : decode cX10_heapAt 1 = .ok (.ifCond .ne 10, 3) := by decide +kernel
theorem dX10_heapAt_4 : decode cX10_heapAt 4 = .ok (.aload_n 0, 1) := by decide +kernel
theorem dX10_heapAt_5 : decode cX10_heapAt 5 = .ok (.getfield 42, 3) := by decide +kernel
theorem dX10_heapAt_8 : decode cX10_heapAt 8 = .ok (.goto 7, 3) := by decide +kernel
theorem dX10_heapAt_11 : decode cX10_heapAt 11 = .ok (.aload_n 0, 1) := by decide +kernel
theorem dX10_heapAt_12 : decode cX10_heapAt 12 = .ok (.getfield 46, 3) := by decide +kernel
theorem dX10_heapAt_15 : decode cX10_heapAt 15 = .ok (.areturn, 1) := by decide +kernel
theorem dX10_isHeap_0 : decode cX10_isHeap 0 = .ok (.iload_n 0, 1) := by decide +kernel
theorem dX10_isHeap_1 : decode cX10_isHeap 1 = .ok (.ifCond .eq 8, 3) := by decide +kernel
theorem dX10_isHeap_4 : decode cX10_isHeap 4 = .ok (.iload_n 0, 1) := by decide +kernel
theorem dX10_isHeap_5 : decode cX10_isHeap 5 = .ok (.iconst 1, 1) := by decide +kernel
theorem dX10_isHeap_6 : decode cX10_isHeap 6 = .ok (.if_icmp .ne 7, 3) := by decide +kernel
theorem dX10_isHeap_9 : decode cX10_isHeap 9 = .ok (.iconst 1, 1) := by decide +kernel
theorem dX10_isHeap_10 : decode cX10_isHeap 10 = .ok (.goto 4, 3) := by decide +kernel
theorem dX10_isHeap_13 : decode cX10_isHeap 13 = .ok (.iconst 0, 1) := by decide +kernel
theorem dX10_isHeap_14 : decode cX10_isHeap 14 = .ok (.ireturn, 1) := by decide +kernel
theorem dX10_isSign_0 : decode cX10_isSign 0 = .ok (.iload_n 0, 1) := by decide +kernel
theorem dX10_isSign_1 : decode cX10_isSign 1 = .ok (.bipush 32, 2) := by decide +kernel
theorem dX10_isSign_3 : decode cX10_isSign 3 = .ok (.if_icmp .lt 9, 3) := by decide +kernel
theorem dX10_isSign_6 : decode cX10_isSign 6 = .ok (.iload_n 0, 1) := by decide +kernel
theorem dX10_isSign_7 : decode cX10_isSign 7 = .ok (.bipush 126, 2) := by decide +kernel
theorem dX10_isSign_9 : decode cX10_isSign 9 = .ok (.if_icmp .le 21, 3) := by decide +kernel
theorem dX10_isSign_12 : decode cX10_isSign 12 = .ok (.iload_n 0, 1) := by decide +kernel
theorem dX10_isSign_13 : decode cX10_isSign 13 = .ok (.bipush 9, 2) := by decide +kernel
theorem dX10_isSign_15 : decode cX10_isSign 15 = .ok (.if_icmp .eq 15, 3) := by decide +kernel
theorem dX10_isSign_18 : decode cX10_isSign 18 = .ok (.iload_n 0, 1) := by decide +kernel
theorem dX10_isSign_19 : decode cX10_isSign 19 = .ok (.bipush 10, 2) := by decide +kernel
theorem dX10_isSign_21 : decode cX10_isSign 21 = .ok (.if_icmp .eq 9, 3) := by decide +kernel
theorem dX10_isSign_24 : decode cX10_isSign 24 = .ok (.iload_n 0, 1) := by decide +kernel
theorem dX10_isSign_25 : decode cX10_isSign 25 = .ok (.bipush 13, 2) := by decide +kernel
theorem dX10_isSign_27 : decode cX10_isSign 27 = .ok (.if_icmp .ne 7, 3) := by decide +kernel
theorem dX10_isSign_30 : decode cX10_isSign 30 = .ok (.iconst 1, 1) := by decide +kernel
theorem dX10_isSign_31 : decode cX10_isSign 31 = .ok (.goto 4, 3) := by decide +kernel
theorem dX10_isSign_34 : decode cX10_isSign 34 = .ok (.iconst 0, 1) := by decide +kernel
theorem dX10_isSign_35 : decode cX10_isSign 35 = .ok (.ireturn, 1) := by decide +kernel
theorem dX10_isBlank_0 : decode cX10_isBlank 0 = .ok (.iload_n 0, 1) := by decide +kernel
theorem dX10_isBlank_1 : decode cX10_isBlank 1 = .ok (.bipush 32, 2) := by decide +kernel
theorem dX10_isBlank_3 : decode cX10_isBlank 3 = .ok (.if_icmp .eq 21, 3) := by decide +kernel
theorem dX10_isBlank_6 : decode cX10_isBlank 6 = .ok (.iload_n 0, 1) := by decide +kernel
theorem dX10_isBlank_7 : decode cX10_isBlank 7 = .ok (.bipush 9, 2) := by decide +kernel
theorem dX10_isBlank_9 : decode cX10_isBlank 9 = .ok (.if_icmp .eq 15, 3) := by decide +kernel
theorem dX10_isBlank_12 : decode cX10_isBlank 12 = .ok (.iload_n 0, 1) := by decide +kernel
theorem dX10_isBlank_13 : decode cX10_isBlank 13 = .ok (.bipush 10, 2) := by decide +kernel
theorem dX10_isBlank_15 : decode cX10_isBlank 15 = .ok (.if_icmp .eq 9, 3) := by decide +kernel
theorem dX10_isBlank_18 : decode cX10_isBlank 18 = .ok (.iload_n 0, 1) := by decide +kernel
theorem dX10_isBlank_19 : decode cX10_isBlank 19 = .ok (.bipush 13, 2) := by decide +kernel
theorem dX10_isBlank_21 : decode cX10_isBlank 21 = .ok (.if_icmp .ne 7, 3) := by decide +kernel
theorem dX10_isBlank_24 : decode cX10_isBlank 24 = .ok (.iconst 1, 1) := by decide +kernel
theorem dX10_isBlank_25 : decode cX10_isBlank 25 = .ok (.goto 4, 3) := by decide +kernel
theorem dX10_isBlank_28 : decode cX10_isBlank 28 = .ok (.iconst 0, 1) := by decide +kernel
theorem dX10_isBlank_29 : decode cX10_isBlank 29 = .ok (.ireturn, 1) := by decide +kernel
theorem dX10_isDigit_0 : decode cX10_isDigit 0 = .ok (.iload_n 0, 1) := by decide +kernel
theorem dX10_isDigit_1 : decode cX10_isDigit 1 = .ok (.bipush 48, 2) := by decide +kernel
theorem dX10_isDigit_3 : decode cX10_isDigit 3 = .ok (.if_icmp .lt 13, 3) := by decide +kernel
theorem dX10_isDigit_6 : decode cX10_isDigit 6 = .ok (.iload_n 0, 1) := by decide +kernel
theorem dX10_isDigit_7 : decode cX10_isDigit 7 = .ok (.bipush 57, 2) := by decide +kernel
theorem dX10_isDigit_9 : decode cX10_isDigit 9 = .ok (.if_icmp .gt 7, 3) := by decide +kernel
theorem dX10_isDigit_12 : decode cX10_isDigit 12 = .ok (.iconst 1, 1) := by decide +kernel
theorem dX10_isDigit_13 : decode cX10_isDigit 13 = .ok (.goto 4, 3) := by decide +kernel
theorem dX10_isDigit_16 : decode cX10_isDigit 16 = .ok (.iconst 0, 1) := by decide +kernel
theorem dX10_isDigit_17 : decode cX10_isDigit 17 = .ok (.ireturn, 1) := by decide +kernel
theorem dX10_isLetter_0 : decode cX10_isLetter 0 = .ok (.iload_n 0, 1) := by decide +kernel
theorem dX10_isLetter_1 : decode cX10_isLetter 1 = .ok (.bipush 97, 2) := by decide +kernel
theorem dX10_isLetter_3 : decode cX10_isLetter 3 = .ok (.if_icmp .lt 9, 3) := by decide +kernel
theorem dX10_isLetter_6 : decode cX10_isLetter 6 = .ok (.iload_n 0, 1) := by decide +kernel
theorem dX10_isLetter_7 : decode cX10_isLetter 7 = .ok (.bipush 122, 2) := by decide +kernel
theorem dX10_isLetter_9 : decode cX10_isLetter 9 = .ok (.if_icmp .le 15, 3) := by decide +kernel
theorem dX10_isLetter_12 : decode cX10_isLetter 12 = .ok (.iload_n 0, 1) := by decide +kernel
theorem dX10_isLetter_13 : decode cX10_isLetter 13 = .ok (.bipush 65, 2) := by decide +kernel
theorem dX10_isLetter_15 : decode cX10_isLetter 15 = .ok (.if_icmp .lt 13, 3) := by decide +kernel
theorem dX10_isLetter_18 : decode cX10_isLetter 18 = .ok (.iload_n 0, 1) := by decide +kernel
theorem dX10_isLetter_19 : decode cX10_isLetter 19 = .ok (.bipush 90, 2) := by decide +kernel
theorem dX10_isLetter_21 : decode cX10_isLetter 21 = .ok (.if_icmp .gt 7, 3) := by decide +kernel
theorem dX10_isLetter_24 : decode cX10_isLetter 24 = .ok (.iconst 1, 1) := by decide +kernel
theorem dX10_isLetter_25 : decode cX10_isLetter 25 = .ok (.goto 4, 3) := by decide +kernel
theorem dX10_isLetter_28 : decode cX10_isLetter 28 = .ok (.iconst 0, 1) := by decide +kernel
theorem dX10_isLetter_29 : decode cX10_isLetter 29 = .ok (.ireturn, 1) := by decide +kernel
theorem dX10_isFieldText_0 : decode cX10_isFieldText 0 = .ok (.iload_n 2, 1) := by decide +kernel
theorem dX10_isFieldText_1 : decode cX10_isFieldText 1 = .ok (.iload_n 1, 1) := by decide +kernel
theorem dX10_isFieldText_2 : decode cX10_isFieldText 2 = .ok (.isub, 1) := by decide +kernel
theorem dX10_isFieldText_3 : decode cX10_isFieldText 3 = .ok (.bipush 20, 2) := by decide +kernel
theorem dX10_isFieldText_5 : decode cX10_isFieldText 5 = .ok (.if_icmp .le 5, 3) := by decide +kernel
theorem dX10_isFieldText_8 : decode cX10_isFieldText 8 = .ok (.iconst 0, 1) := by decide +kernel
theorem dX10_isFieldText_9 : decode cX10_isFieldText 9 = .ok (.ireturn, 1) := by decide +kernel
theorem dX10_isFieldText_10 : decode cX10_isFieldText 10 = .ok (.iload_n 1, 1) := by decide +kernel
theorem dX10_isFieldText_11 : decode cX10_isFieldText 11 = .ok (.istore_n 3, 1) := by decide +kernel
theorem dX10_isFieldText_12 : decode cX10_isFieldText 12 = .ok (.iload_n 3, 1) := by decide +kernel
theorem dX10_isFieldText_13 : decode cX10_isFieldText 13 = .ok (.iload_n 2, 1) := by decide +kernel
theorem dX10_isFieldText_14 : decode cX10_isFieldText 14 = .ok (.if_icmp .ge 21, 3) := by decide +kernel
theorem dX10_isFieldText_17 : decode cX10_isFieldText 17 = .ok (.aload_n 0, 1) := by decide +kernel
theorem dX10_isFieldText_18 : decode cX10_isFieldText 18 = .ok (.iload_n 3, 1) := by decide +kernel
theorem dX10_isFieldText_19 : decode cX10_isFieldText 19 = .ok (.invokevirtual 129, 3) := by decide +kernel
theorem dX10_isFieldText_22 : decode cX10_isFieldText 22 = .ok (.bipush 32, 2) := by decide +kernel
theorem dX10_isFieldText_24 : decode cX10_isFieldText 24 = .ok (.if_icmp .ge 5, 3) := by decide +kernel
theorem dX10_isFieldText_27 : decode cX10_isFieldText 27 = .ok (.iconst 0, 1) := by decide +kernel
theorem dX10_isFieldText_28 : decode cX10_isFieldText 28 = .ok (.ireturn, 1) := by decide +kernel
theorem dX10_isFieldText_29 : decode cX10_isFieldText 29 = .ok (.iinc 3 1, 3) := by decide +kernel
theorem dX10_isFieldText_32 : decode cX10_isFieldText 32 = .ok (.goto (-20), 3) := by decide +kernel
theorem dX10_isFieldText_35 : decode cX10_isFieldText 35 = .ok (.iconst 1, 1) := by decide +kernel
theorem dX10_isFieldText_36 : decode cX10_isFieldText 36 = .ok (.ireturn, 1) := by decide +kernel
theorem dX11_init_0 : decode cX11_init 0 = .ok (.aload_n 0, 1) := by decide +kernel
theorem dX11_init_1 : decode cX11_init 1 = .ok (.invokespecial 1, 3) := by decide +kernel
theorem dX11_init_4 : decode cX11_init 4 = .ok (.aload_n 0, 1) := by decide +kernel
theorem dX11_init_5 : decode cX11_init 5 = .ok (.sipush 3000, 3) := by decide +kernel
theorem dX11_init_8 : decode cX11_init 8 = .ok (.newarray .int, 2) := by decide +kernel
theorem dX11_init_10 : decode cX11_init 10 = .ok (.putfield 7, 3) := by decide +kernel
theorem dX11_init_13 : decode cX11_init 13 = .ok (.aload_n 0, 1) := by decide +kernel
theorem dX11_init_14 : decode cX11_init 14 = .ok (.bipush 6, 2) := by decide +kernel
theorem dX11_init_16 : decode cX11_init 16 = .ok (.newarray .int, 2) := by decide +kernel
theorem dX11_init_18 : decode cX11_init 18 = .ok (.putfield 13, 3) := by decide +kernel
theorem dX11_init_21 : decode cX11_init 21 = .ok (.aload_n 0, 1) := by decide +kernel
theorem dX11_init_22 : decode cX11_init 22 = .ok (.bipush 30, 2) := by decide +kernel
theorem dX11_init_24 : decode cX11_init 24 = .ok (.newarray .int, 2) := by decide +kernel
theorem dX11_init_26 : decode cX11_init 26 = .ok (.putfield 16, 3) := by decide +kernel
theorem dX11_init_29 : decode cX11_init 29 = .ok (.aload_n 0, 1) := by decide +kernel
theorem dX11_init_30 : decode cX11_init 30 = .ok (.sipush 240, 3) := by decide +kernel
theorem dX11_init_33 : decode cX11_init 33 = .ok (.newarray .int, 2) := by decide +kernel
theorem dX11_init_35 : decode cX11_init 35 = .ok (.putfield 19, 3) := by decide +kernel
theorem dX11_init_38 : decode cX11_init 38 = .ok (.aload_n 0, 1) := by decide +kernel
theorem dX11_init_39 : decode cX11_init 39 = .ok (.bipush 24, 2) := by decide +kernel
theorem dX11_init_41 : decode cX11_init 41 = .ok (.newarray .int, 2) := by decide +kernel
theorem dX11_init_43 : decode cX11_init 43 = .ok (.putfield 22, 3) := by decide +kernel
theorem dX11_init_46 : decode cX11_init 46 = .ok (.aload_n 0, 1) := by decide +kernel
theorem dX11_init_47 : decode cX11_init 47 = .ok (.bipush 24, 2) := by decide +kernel
theorem dX11_init_49 : decode cX11_init 49 = .ok (.newarray .boolean, 2) := by decide +kernel
theorem dX11_init_51 : decode cX11_init 51 = .ok (.putfield 25, 3) := by decide +kernel
theorem dX11_init_54 : decode cX11_init 54 = .ok (.aload_n 0, 1) := by decide +kernel
theorem dX11_init_55 : decode cX11_init 55 = .ok (.bipush 6, 2) := by decide +kernel
theorem dX11_init_57 : decode cX11_init 57 = .ok (.newarray .boolean, 2) := by decide +kernel
theorem dX11_init_59 : decode cX11_init 59 = .ok (.putfield 29, 3) := by decide +kernel
theorem dX11_init_62 : decode cX11_init 62 = .ok (.aload_n 0, 1) := by decide +kernel
theorem dX11_init_63 : decode cX11_init 63 = .ok (.bipush 6, 2) := by decide +kernel
theorem dX11_init_65 : decode cX11_init 65 = .ok (.newarray .int, 2) := by decide +kernel
theorem dX11_init_67 : decode cX11_init 67 = .ok (.putfield 32, 3) := by decide +kernel
theorem dX11_init_70 : decode cX11_init 70 = .ok (.aload_n 0, 1) := by decide +kernel
theorem dX11_init_71 : decode cX11_init 71 = .ok (.bipush 30, 2) := by decide +kernel
theorem dX11_init_73 : decode cX11_init 73 = .ok (.newarray .int, 2) := by decide +kernel
theorem dX11_init_75 : decode cX11_init 75 = .ok (.putfield 35, 3) := by decide +kernel
theorem dX11_init_78 : decode cX11_init 78 = .ok (.aload_n 0, 1) := by decide +kernel
theorem dX11_init_79 : decode cX11_init 79 = .ok (.sipush 240, 3) := by decide +kernel
theorem dX11_init_82 : decode cX11_init 82 = .ok (.newarray .int, 2) := by decide +kernel
theorem dX11_init_84 : decode cX11_init 84 = .ok (.putfield 38, 3) := by decide +kernel
theorem dX11_init_87 : decode cX11_init 87 = .ok (.aload_n 0, 1) := by decide +kernel
theorem dX11_init_88 : decode cX11_init 88 = .ok (.bipush 24, 2) := by decide +kernel
theorem dX11_init_90 : decode cX11_init 90 = .ok (.newarray .int, 2) := by decide +kernel
theorem dX11_init_92 : decode cX11_init 92 = .ok (.putfield 41, 3) := by decide +kernel
theorem dX11_init_95 : decode cX11_init 95 = .ok (.aload_n 0, 1) := by decide +kernel
theorem dX11_init_96 : decode cX11_init 96 = .ok (.bipush 24, 2) := by decide +kernel
theorem dX11_init_98 : decode cX11_init 98 = .ok (.newarray .boolean, 2) := by decide +kernel
theorem dX11_init_100 : decode cX11_init 100 = .ok (.putfield 44, 3) := by decide +kernel
theorem dX11_init_103 : decode cX11_init 103 = .ok (.aload_n 0, 1) := by decide +kernel
theorem dX11_init_104 : decode cX11_init 104 = .ok (.iconst 3, 1) := by decide +kernel
theorem dX11_init_105 : decode cX11_init 105 = .ok (.newarray .int, 2) := by decide +kernel
theorem dX11_init_107 : decode cX11_init 107 = .ok (.putfield 47, 3) := by decide +kernel
theorem dX11_init_110 : decode cX11_init 110 = .ok (.aload_n 0, 1) := by decide +kernel
theorem dX11_init_111 : decode cX11_init 111 = .ok (.bipush 90, 2) := by decide +kernel
theorem dX11_init_113 : decode cX11_init 113 = .ok (.newarray .int, 2) := by decide +kernel
theorem dX11_init_115 : decode cX11_init 115 = .ok (.putfield 50, 3) := by decide +kernel
theorem dX11_init_118 : decode cX11_init 118 = .ok (.aload_n 0, 1) := by decide +kernel
theorem dX11_init_119 : decode cX11_init 119 = .ok (.sipush 360, 3) := by decide +kernel
theorem dX11_init_122 : decode cX11_init 122 = .ok (.newarray .int, 2) := by decide +kernel
theorem dX11_init_124 : decode cX11_init 124 = .ok (.putfield 53, 3) := by decide +kernel
theorem dX11_init_127 : decode cX11_init 127 = .ok (.aload_n 0, 1) := by decide +kernel
theorem dX11_init_128 : decode cX11_init 128 = .ok (.sipush 7200, 3) := by decide +kernel
theorem dX11_init_131 : decode cX11_init 131 = .ok (.newarray .int, 2) := by decide +kernel
theorem dX11_init_133 : decode cX11_init 133 = .ok (.putfield 56, 3) := by decide +kernel
theorem dX11_init_136 : decode cX11_init 136 = .ok (.aload_n 0, 1) := by decide +kernel
theorem dX11_init_137 : decode cX11_init 137 = .ok (.bipush 10, 2) := by decide +kernel
theorem dX11_init_139 : decode cX11_init 139 = .ok (.putfield 59, 3) := by decide +kernel
theorem dX11_init_142 : decode cX11_init 142 = .ok (.aload_n 0, 1) := by decide +kernel
theorem dX11_init_143 : decode cX11_init 143 = .ok (.sipush 3000, 3) := by decide +kernel
theorem dX11_init_146 : decode cX11_init 146 = .ok (.newarray .int, 2) := by decide +kernel
theorem dX11_init_148 : decode cX11_init 148 = .ok (.putfield 63, 3) := by decide +kernel
theorem dX11_init_151 : decode cX11_init 151 = .ok (.aload_n 0, 1) := by decide +kernel
theorem dX11_init_152 : decode cX11_init 152 = .ok (.sipush 900, 3) := by decide +kernel
theorem dX11_init_155 : decode cX11_init 155 = .ok (.newarray .int, 2) := by decide +kernel
theorem dX11_init_157 : decode cX11_init 157 = .ok (.putfield 66, 3) := by decide +kernel
theorem dX11_init_160 : decode cX11_init 160 = .ok (.aload_n 0, 1) := by decide +kernel
theorem dX11_init_161 : decode cX11_init 161 = .ok (.sipush 900, 3) := by decide +kernel
theorem dX11_init_164 : decode cX11_init 164 = .ok (.newarray .int, 2) := by decide +kernel
theorem dX11_init_166 : decode cX11_init 166 = .ok (.putfield 69, 3) := by decide +kernel
theorem dX11_init_169 : decode cX11_init 169 = .ok (.aload_n 0, 1) := by decide +kernel
theorem dX11_init_170 : decode cX11_init 170 = .ok (.sipush 900, 3) := by decide +kernel
theorem dX11_init_173 : decode cX11_init 173 = .ok (.newarray .int, 2) := by decide +kernel
theorem dX11_init_175 : decode cX11_init 175 = .ok (.putfield 72, 3) := by decide +kernel
theorem dX11_init_178 : decode cX11_init 178 = .ok (.aload_n 0, 1) := by decide +kernel
theorem dX11_init_179 : decode cX11_init 179 = .ok (.bipush 30, 2) := by decide +kernel
theorem dX11_init_181 : decode cX11_init 181 = .ok (.newarray .int, 2) := by decide +kernel
theorem dX11_init_183 : decode cX11_init 183 = .ok (.putfield 75, 3) := by decide +kernel
theorem dX11_init_186 : decode cX11_init 186 = .ok (.aload_n 0, 1) := by decide +kernel
theorem dX11_init_187 : decode cX11_init 187 = .ok (.bipush 30, 2) := by decide +kernel
theorem dX11_init_189 : decode cX11_init 189 = .ok (.newarray .int, 2) := by decide +kernel
theorem dX11_init_191 : decode cX11_init 191 = .ok (.putfield 78, 3) := by decide +kernel
theorem dX11_init_194 : decode cX11_init 194 = .ok (.aload_n 0, 1) := by decide +kernel
theorem dX11_init_195 : decode cX11_init 195 = .ok (.bipush 24, 2) := by decide +kernel
theorem dX11_init_197 : decode cX11_init 197 = .ok (.newarray .int, 2) := by decide +kernel
theorem dX11_init_199 : decode cX11_init 199 = .ok (.putfield 81, 3) := by decide +kernel
theorem dX11_init_202 : decode cX11_init 202 = .ok (.aload_n 0, 1) := by decide +kernel
theorem dX11_init_203 : decode cX11_init 203 = .ok (.bipush 24, 2) := by decide +kernel
theorem dX11_init_205 : decode cX11_init 205 = .ok (.newarray .int, 2) := by decide +kernel
theorem dX11_init_207 : decode cX11_init 207 = .ok (.putfield 84, 3) := by decide +kernel
theorem dX11_init_210 : decode cX11_init 210 = .ok (.aload_n 0, 1) := by decide +kernel
theorem dX11_init_211 : decode cX11_init 211 = .ok (.bipush 24, 2) := by decide +kernel
theorem dX11_init_213 : decode cX11_init 213 = .ok (.newarray .int, 2) := by decide +kernel
theorem dX11_init_215 : decode cX11_init 215 = .ok (.putfield 87, 3) := by decide +kernel
theorem dX11_init_218 : decode cX11_init 218 = .ok (.aload_n 0, 1) := by decide +kernel
theorem dX11_init_219 : decode cX11_init 219 = .ok (.bipush 24, 2) := by decide +kernel
theorem dX11_init_221 : decode cX11_init 221 = .ok (.newarray .int, 2) := by decide +kernel
theorem dX11_init_223 : decode cX11_init 223 = .ok (.putfield 90, 3) := by decide +kernel
theorem dX11_init_226 : decode cX11_init 226 = .ok (.aload_n 0, 1) := by decide +kernel
theorem dX11_init_227 : decode cX11_init 227 = .ok (.bipush 24, 2) := by decide +kernel
theorem dX11_init_229 : decode cX11_init 229 = .ok (.newarray .int, 2) := by decide +kernel
theorem dX11_init_231 : decode cX11_init 231 = .ok (.putfield 93, 3) := by decide +kernel
theorem dX11_init_234 : decode cX11_init 234 = .ok (.aload_n 0, 1) := by decide +kernel
theorem dX11_init_235 : decode cX11_init 235 = .ok (.bipush 24, 2) := by decide +kernel
theorem dX11_init_237 : decode cX11_init 237 = .ok (.newarray .int, 2) := by decide +kernel
theorem dX11_init_239 : decode cX11_init 239 = .ok (.putfield 96, 3) := by decide +kernel
theorem dX11_init_242 : decode cX11_init 242 = .ok (.aload_n 0, 1) := by decide +kernel
theorem dX11_init_243 : decode cX11_init 243 = .ok (.sipush 3001, 3) := by decide +kernel
theorem dX11_init_246 : decode cX11_init 246 = .ok (.newarray .int, 2) := by decide +kernel
theorem dX11_init_248 : decode cX11_init 248 = .ok (.putfield 99, 3) := by decide +kernel
theorem dX11_init_251 : decode cX11_init 251 = .ok (.aload_n 0, 1) := by decide +kernel
theorem dX11_init_252 : decode cX11_init 252 = .ok (.sipush 3000, 3) := by decide +kernel
theorem dX11_init_255 : decode cX11_init 255 = .ok (.newarray .int, 2) := by decide +kernel
theorem dX11_init_257 : decode cX11_init 257 = .ok (.putfield 102, 3) := by decide +kernel
theorem dX11_init_260 : decode cX11_init 260 = .ok (.aload_n 0, 1) := by decide +kernel
theorem dX11_init_261 : decode cX11_init 261 = .ok (.sipush 200, 3) := by decide +kernel
theorem dX11_init_264 : decode cX11_init 264 = .ok (.newarray .int, 2) := by decide +kernel
theorem dX11_init_266 : decode cX11_init 266 = .ok (.putfield 105, 3) := by decide +kernel
theorem dX11_init_269 : decode cX11_init 269 = .ok (.aload_n 0, 1) := by decide +kernel
theorem dX11_init_270 : decode cX11_init 270 = .ok (.sipush 200, 3) := by decide +kernel
theorem dX11_init_273 : decode cX11_init 273 = .ok (.newarray .int, 2) := by decide +kernel
theorem dX11_init_275 : decode cX11_init 275 = .ok (.putfield 108, 3) := by decide +kernel
theorem dX11_init_278 : decode cX11_init 278 = .ok (.aload_n 0, 1) := by decide +kernel
theorem dX11_init_279 : decode cX11_init 279 = .ok (.sipush 200, 3) := by decide +kernel
theorem dX11_init_282 : decode cX11_init 282 = .ok (.newarray .int, 2) := by decide +kernel
theorem dX11_init_284 : decode cX11_init 284 = .ok (.putfield 111, 3) := by decide +kernel
theorem dX11_init_287 : decode cX11_init 287 = .ok (.aload_n 0, 1) := by decide +kernel
theorem dX11_init_288 : decode cX11_init 288 = .ok (.sipush 200, 3) := by decide +kernel
theorem dX11_init_291 : decode cX11_init 291 = .ok (.newarray .int, 2) := by decide +kernel
theorem dX11_init_293 : decode cX11_init 293 = .ok (.putfield 114, 3) := by decide +kernel
theorem dX11_init_296 : decode cX11_init 296 = .ok (.aload_n 0, 1) := by decide +kernel
theorem dX11_init_297 : decode cX11_init 297 = .ok (.sipush 200, 3) := by decide +kernel
theorem dX11_init_300 : decode cX11_init 300 = .ok (.newarray .int, 2) := by decide +kernel
theorem dX11_init_302 : decode cX11_init 302 = .ok (.putfield 117, 3) := by decide +kernel
theorem dX11_init_305 : decode cX11_init 305 = .ok (.aload_n 0, 1) := by decide +kernel
theorem dX11_init_306 : decode cX11_init 306 = .ok (.sipush 200, 3) := by decide +kernel
theorem dX11_init_309 : decode cX11_init 309 = .ok (.newarray .int, 2) := by decide +kernel
theorem dX11_init_311 : decode cX11_init 311 = .ok (.putfield 120, 3) := by decide +kernel
theorem dX11_init_314 : decode cX11_init 314 = .ok (.aload_n 0, 1) := by decide +kernel
theorem dX11_init_315 : decode cX11_init 315 = .ok (.sipush 200, 3) := by decide +kernel
theorem dX11_init_318 : decode cX11_init 318 = .ok (.newarray .int, 2) := by decide +kernel
theorem dX11_init_320 : decode cX11_init 320 = .ok (.putfield 123, 3) := by decide +kernel
theorem dX11_init_323 : decode cX11_init 323 = .ok (.aload_n 0, 1) := by decide +kernel
theorem dX11_init_324 : decode cX11_init 324 = .ok (.sipush 600, 3) := by decide +kernel
theorem dX11_init_327 : decode cX11_init 327 = .ok (.newarray .int, 2) := by decide +kernel
theorem dX11_init_329 : decode cX11_init 329 = .ok (.putfield 126, 3) := by decide +kernel
theorem dX11_init_332 : decode cX11_init 332 = .ok (.aload_n 0, 1) := by decide +kernel
theorem dX11_init_333 : decode cX11_init 333 = .ok (.sipush 600, 3) := by decide +kernel
theorem dX11_init_336 : decode cX11_init 336 = .ok (.newarray .int, 2) := by decide +kernel
theorem dX11_init_338 : decode cX11_init 338 = .ok (.putfield 129, 3) := by decide +kernel
theorem dX11_init_341 : decode cX11_init 341 = .ok (.aload_n 0, 1) := by decide +kernel
theorem dX11_init_342 : decode cX11_init 342 = .ok (.sipush 600, 3) := by decide +kernel
theorem dX11_init_345 : decode cX11_init 345 = .ok (.newarray .int, 2) := by decide +kernel
theorem dX11_init_347 : decode cX11_init 347 = .ok (.putfield 132, 3) := by decide +kernel
theorem dX11_init_350 : decode cX11_init 350 = .ok (.aload_n 0, 1) := by decide +kernel
theorem dX11_init_351 : decode cX11_init 351 = .ok (.sipush 600, 3) := by decide +kernel
theorem dX11_init_354 : decode cX11_init 354 = .ok (.newarray .int, 2) := by decide +kernel
theorem dX11_init_356 : decode cX11_init 356 = .ok (.putfield 135, 3) := by decide +kernel
theorem dX11_init_359 : decode cX11_init 359 = .ok (.aload_n 0, 1) := by decide +kernel
theorem dX11_init_360 : decode cX11_init 360 = .ok (.sipush 3000, 3) := by decide +kernel
theorem dX11_init_363 : decode cX11_init 363 = .ok (.newarray .int, 2) := by decide +kernel
theorem dX11_init_365 : decode cX11_init 365 = .ok (.putfield 138, 3) := by decide +kernel
theorem dX11_init_368 : decode cX11_init 368 = .ok (.aload_n 0, 1) := by decide +kernel
theorem dX11_init_369 : decode cX11_init 369 = .ok (.sipush 3000, 3) := by decide +kernel
theorem dX11_init_372 : decode cX11_init 372 = .ok (.newarray .int, 2) := by decide +kernel
theorem dX11_init_374 : decode cX11_init 374 = .ok (.putfield 141, 3) := by decide +kernel
theorem dX11_init_377 : decode cX11_init 377 = .ok (.aload_n 0, 1) := by decide +kernel
theorem dX11_init_378 : decode cX11_init 378 = .ok (.sipush 200, 3) := by decide +kernel
theorem dX11_init_381 : decode cX11_init 381 = .ok (.newarray .int, 2) := by decide +kernel
theorem dX11_init_383 : decode cX11_init 383 = .ok (.putfield 144, 3) := by decide +kernel
theorem dX11_init_386 : decode cX11_init 386 = .ok (.aload_n 0, 1) := by decide +kernel
theorem dX11_init_387 : decode cX11_init 387 = .ok (.sipush 200, 3) := by decide +kernel
theorem dX11_init_390 : decode cX11_init 390 = .ok (.newarray .int, 2) := by decide +kernel
theorem dX11_init_392 : decode cX11_init 392 = .ok (.putfield 147, 3) := by decide +kernel
theorem dX11_init_395 : decode cX11_init 395 = .ok (.aload_n 0, 1) := by decide +kernel
theorem dX11_init_396 : decode cX11_init 396 = .ok (.sipush 200, 3) := by decide +kernel
theorem dX11_init_399 : decode cX11_init 399 = .ok (.newarray .int, 2) := by decide +kernel
theorem dX11_init_401 : decode cX11_init 401 = .ok (.putfield 150, 3) := by decide +kernel
theorem dX11_init_404 : decode cX11_init 404 = .ok (.aload_n 0, 1) := by decide +kernel
theorem dX11_init_405 : decode cX11_init 405 = .ok (.sipush 200, 3) := by decide +kernel
theorem dX11_init_408 : decode cX11_init 408 = .ok (.newarray .int, 2) := by decide +kernel
theorem dX11_init_410 : decode cX11_init 410 = .ok (.putfield 153, 3) := by decide +kernel
theorem dX11_init_413 : decode cX11_init 413 = .ok (.aload_n 0, 1) := by decide +kernel
theorem dX11_init_414 : decode cX11_init 414 = .ok (.sipush 200, 3) := by decide +kernel
theorem dX11_init_417 : decode cX11_init 417 = .ok (.newarray .int, 2) := by decide +kernel
theorem dX11_init_419 : decode cX11_init 419 = .ok (.putfield 156, 3) := by decide +kernel
theorem dX11_init_422 : decode cX11_init 422 = .ok (.aload_n 0, 1) := by decide +kernel
theorem dX11_init_423 : decode cX11_init 423 = .ok (.bipush 120, 2) := by decide +kernel
theorem dX11_init_425 : decode cX11_init 425 = .ok (.newarray .int, 2) := by decide +kernel
theorem dX11_init_427 : decode cX11_init 427 = .ok (.putfield 159, 3) := by decide +kernel
theorem dX11_init_430 : decode cX11_init 430 = .ok (.aload_n 0, 1) := by decide +kernel
theorem dX11_init_431 : decode cX11_init 431 = .ok (.sipush 3000, 3) := by decide +kernel
theorem dX11_init_434 : decode cX11_init 434 = .ok (.newarray .int, 2) := by decide +kernel
theorem dX11_init_436 : decode cX11_init 436 = .ok (.putfield 162, 3) := by decide +kernel
theorem dX11_init_439 : decode cX11_init 439 = .ok (.aload_n 0, 1) := by decide +kernel
theorem dX11_init_440 : decode cX11_init 440 = .ok (.bipush 30, 2) := by decide +kernel
theorem dX11_init_442 : decode cX11_init 442 = .ok (.newarray .int, 2) := by decide +kernel
theorem dX11_init_444 : decode cX11_init 444 = .ok (.putfield 165, 3) := by decide +kernel
theorem dX11_init_447 : decode cX11_init 447 = .ok (.aload_n 0, 1) := by decide +kernel
theorem dX11_init_448 : decode cX11_init 448 = .ok (.bipush 30, 2) := by decide +kernel
theorem dX11_init_450 : decode cX11_init 450 = .ok (.newarray .int, 2) := by decide +kernel
theorem dX11_init_452 : decode cX11_init 452 = .ok (.putfield 168, 3) := by decide +kernel
theorem dX11_init_455 : decode cX11_init 455 = .ok (.return_, 1) := by decide +kernel
theorem dX11_in_0 : decode cX11_in 0 = .ok (.iload_n 0, 1) := by decide +kernel
theorem dX11_in_1 : decode cX11_in 1 = .ok (.iload_n 1, 1) := by decide +kernel
theorem dX11_in_2 : decode cX11_in 2 = .ok (.if_icmp .lt 12, 3) := by decide +kernel
theorem dX11_in_5 : decode cX11_in 5 = .ok (.iload_n 0, 1) := by decide +kernel
theorem dX11_in_6 : decode cX11_in 6 = .ok (.iload_n 2, 1) := by decide +kernel
theorem dX11_in_7 : decode cX11_in 7 = .ok (.if_icmp .gt 7, 3) := by decide +kernel
theorem dX11_in_10 : decode cX11_in 10 = .ok (.iconst 1, 1) := by decide +kernel
theorem dX11_in_11 : decode cX11_in 11 = .ok (.goto 4, 3) := by decide +kernel
theorem dX11_in_14 : decode cX11_in 14 = .ok (.iconst 0, 1) := by decide +kernel
theorem dX11_in_15 : decode cX11_in 15 = .ok (.ireturn, 1) := by decide +kernel
theorem dX11_isDigit_0 : decode cX11_isDigit 0 = .ok (.iload_n 0, 1) := by decide +kernel
theorem dX11_isDigit_1 : decode cX11_isDigit 1 = .ok (.bipush 48, 2) := by decide +kernel
theorem dX11_isDigit_3 : decode cX11_isDigit 3 = .ok (.if_icmp .lt 13, 3) := by decide +kernel
theorem dX11_isDigit_6 : decode cX11_isDigit 6 = .ok (.iload_n 0, 1) := by decide +kernel
theorem dX11_isDigit_7 : decode cX11_isDigit 7 = .ok (.bipush 57, 2) := by decide +kernel
theorem dX11_isDigit_9 : decode cX11_isDigit 9 = .ok (.if_icmp .gt 7, 3) := by decide +kernel
theorem dX11_isDigit_12 : decode cX11_isDigit 12 = .ok (.iconst 1, 1) := by decide +kernel
theorem dX11_isDigit_13 : decode cX11_isDigit 13 = .ok (.goto 4, 3) := by decide +kernel
theorem dX11_isDigit_16 : decode cX11_isDigit 16 = .ok (.iconst 0, 1) := by decide +kernel
theorem dX11_isDigit_17 : decode cX11_isDigit 17 = .ok (.ireturn, 1) := by decide +kernel
theorem dX11_isLetter_0 : decode cX11_isLetter 0 = .ok (.iload_n 0, 1) := by decide +kernel
theorem dX11_isLetter_1 : decode cX11_isLetter 1 = .ok (.bipush 97, 2) := by decide +kernel
theorem dX11_isLetter_3 : decode cX11_isLetter 3 = .ok (.if_icmp .lt 9, 3) := by decide +kernel
theorem dX11_isLetter_6 : decode cX11_isLetter 6 = .ok (.iload_n 0, 1) := by decide +kernel
theorem dX11_isLetter_7 : decode cX11_isLetter 7 = .ok (.bipush 122, 2) := by decide +kernel
theorem dX11_isLetter_9 : decode cX11_isLetter 9 = .ok (.if_icmp .le 15, 3) := by decide +kernel
theorem dX11_isLetter_12 : decode cX11_isLetter 12 = .ok (.iload_n 0, 1) := by decide +kernel
theorem dX11_isLetter_13 : decode cX11_isLetter 13 = .ok (.bipush 65, 2) := by decide +kernel
theorem dX11_isLetter_15 : decode cX11_isLetter 15 = .ok (.if_icmp .lt 13, 3) := by decide +kernel
theorem dX11_isLetter_18 : decode cX11_isLetter 18 = .ok (.iload_n 0, 1) := by decide +kernel
theorem dX11_isLetter_19 : decode cX11_isLetter 19 = .ok (.bipush 90, 2) := by decide +kernel
theorem dX11_isLetter_21 : decode cX11_isLetter 21 = .ok (.if_icmp .gt 7, 3) := by decide +kernel
theorem dX11_isLetter_24 : decode cX11_isLetter 24 = .ok (.iconst 1, 1) := by decide +kernel
theorem dX11_isLetter_25 : decode cX11_isLetter 25 = .ok (.goto 4, 3) := by decide +kernel
theorem dX11_isLetter_28 : decode cX11_isLetter 28 = .ok (.iconst 0, 1) := by decide +kernel
theorem dX11_isLetter_29 : decode cX11_isLetter 29 = .ok (.ireturn, 1) := by decide +kernel
theorem dX11_isBlank_0 : decode cX11_isBlank 0 = .ok (.iload_n 0, 1) := by decide +kernel
theorem dX11_isBlank_1 : decode cX11_isBlank 1 = .ok (.bipush 32, 2) := by decide +kernel
theorem dX11_isBlank_3 : decode cX11_isBlank 3 = .ok (.if_icmp .eq 21, 3) := by decide +kernel
theorem dX11_isBlank_6 : decode cX11_isBlank 6 = .ok (.iload_n 0, 1) := by decide +kernel
theorem dX11_isBlank_7 : decode cX11_isBlank 7 = .ok (.bipush 9, 2) := by decide +kernel
theorem dX11_isBlank_9 : decode cX11_isBlank 9 = .ok (.if_icmp .eq 15, 3) := by decide +kernel
theorem dX11_isBlank_12 : decode cX11_isBlank 12 = .ok (.iload_n 0, 1) := by decide +kernel
theorem dX11_isBlank_13 : decode cX11_isBlank 13 = .ok (.bipush 10, 2) := by decide +kernel
theorem dX11_isBlank_15 : decode cX11_isBlank 15 = .ok (.if_icmp .eq 9, 3) := by decide +kernel
theorem dX11_isBlank_18 : decode cX11_isBlank 18 = .ok (.iload_n 0, 1) := by decide +kernel
theorem dX11_isBlank_19 : decode cX11_isBlank 19 = .ok (.bipush 13, 2) := by decide +kernel
theorem dX11_isBlank_21 : decode cX11_isBlank 21 = .ok (.if_icmp .ne 7, 3) := by decide +kernel
theorem dX11_isBlank_24 : decode cX11_isBlank 24 = .ok (.iconst 1, 1) := by decide +kernel
theorem dX11_isBlank_25 : decode cX11_isBlank 25 = .ok (.goto 4, 3) := by decide +kernel
theorem dX11_isBlank_28 : decode cX11_isBlank 28 = .ok (.iconst 0, 1) := by decide +kernel
theorem dX11_isBlank_29 : decode cX11_isBlank 29 = .ok (.ireturn, 1) := by decide +kernel
theorem dX11_unit_0 : decode cX11_unit 0 = .ok (.aload_n 0, 1) := by decide +kernel
theorem dX11_unit_1 : decode cX11_unit 1 = .ok (.getfield 171, 3) := by decide +kernel
theorem dX11_unit_4 : decode cX11_unit 4 = .ok (.sipush 3000, 3) := by decide +kernel
theorem dX11_unit_7 : decode cX11_unit 7 = .ok (.if_icmp .eq 21, 3) := by decide +kernel
theorem dX11_unit_10 : decode cX11_unit 10 = .ok (.iload_n 1, 1) := by decide +kernel
theorem dX11_unit_11 : decode cX11_unit 11 = .ok (.bipush 32, 2) := by decide +kernel
theorem dX11_unit_13 : decode cX11_unit 13 = .ok (.bipush 126, 2) := by decide +kernel
theorem dX11_unit_15 : decode cX11_unit 15 = .ok (.invokestatic 174, 3) := by decide +kernel
theorem dX11_unit_18 : decode cX11_unit 18 = .ok (.ifCond .ne 12, 3) := by decide +kernel
theorem dX11_unit_21 : decode cX11_unit 21 = .ok (.iload_n 1, 1) := by decide +kernel
theorem dX11_unit_22 : decode cX11_unit 22 = .ok (.invokestatic 178, 3) := by decide +kernel

