theorem dX11_putWay_81 : decode cX11_putWay 81 = .ok (.return_, 1) := by decide +kernel
theorem dX11_refer_0 : decode cX11_refer 0 = .ok (.aload_n 0, 1) := by decide +kernel
theorem dX11_refer_1 : decode cX11_refer 1 = .ok (.iload_n 2, 1) := by decide +kernel
theorem dX11_refer_2 : decode cX11_refer 2 = .ok (.iload_n 3, 1) := by decide +kernel
theorem dX11_refer_3 : decode cX11_refer 3 = .ok (.invokevirtual 297, 3) := by decide +kernel
theorem dX11_refer_6 : decode cX11_refer 6 = .ok (.istore 5, 2) := by decide +kernel
theorem dX11_refer_8 : decode cX11_refer 8 = .ok (.aload_n 0, 1) := by decide +kernel
theorem dX11_refer_9 : decode cX11_refer 9 = .ok (.bipush 60, 2) := by decide +kernel
theorem dX11_refer_11 : decode cX11_refer 11 = .ok (.invokevirtual 260, 3) := by decide +kernel
theorem dX11_refer_14 : decode cX11_refer 14 = .ok (.aload_n 0, 1) := by decide +kernel
theorem dX11_refer_15 : decode cX11_refer 15 = .ok (.iload_n 3, 1) := by decide +kernel
theorem dX11_refer_16 : decode cX11_refer 16 = .ok (.invokevirtual 284, 3) := by decide +kernel
theorem dX11_refer_19 : decode cX11_refer 19 = .ok (.aload_n 0, 1) := by decide +kernel
theorem dX11_refer_20 : decode cX11_refer 20 = .ok (.bipush 114, 2) := by decide +kernel
theorem dX11_refer_22 : decode cX11_refer 22 = .ok (.bipush 101, 2) := by decide +kernel
theorem dX11_refer_24 : decode cX11_refer 24 = .ok (.bipush 102, 2) := by decide +kernel
theorem dX11_refer_26 : decode cX11_refer 26 = .ok (.bipush 101, 2) := by decide +kernel
theorem dX11_refer_28 : decode cX11_refer 28 = .ok (.invokevirtual 300, 3) := by decide +kernel
theorem dX11_refer_31 : decode cX11_refer 31 = .ok (.aload_n 0, 1) := by decide +kernel
theorem dX11_refer_32 : decode cX11_refer 32 = .ok (.bipush 114, 2) := by decide +kernel
theorem dX11_refer_34 : decode cX11_refer 34 = .ok (.bipush 101, 2) := by decide +kernel
theorem dX11_refer_36 : decode cX11_refer 36 = .ok (.bipush 110, 2) := by decide +kernel
theorem dX11_refer_38 : decode cX11_refer 38 = .ok (.bipush 99, 2) := by decide +kernel
theorem dX11_refer_40 : decode cX11_refer 40 = .ok (.invokevirtual 267, 3) := by decide +kernel
theorem dX11_refer_43 : decode cX11_refer 43 = .ok (.aload_n 0, 1) := by decide +kernel
theorem dX11_refer_44 : decode cX11_refer 44 = .ok (.bipush 101, 2) := by decide +kernel
theorem dX11_refer_46 : decode cX11_refer 46 = .ok (.bipush 61, 2) := by decide +kernel
theorem dX11_refer_48 : decode cX11_refer 48 = .ok (.bipush 34, 2) := by decide +kernel
theorem dX11_refer_50 : decode cX11_refer 50 = .ok (.iconst 0, 1) := by decide +kernel
theorem dX11_refer_51 : decode cX11_refer 51 = .ok (.invokevirtual 267, 3) := by decide +kernel
theorem dX11_refer_54 : decode cX11_refer 54 = .ok (.iload 4, 2) := by decide +kernel
theorem dX11_refer_56 : decode cX11_refer 56 = .ok (.iconst 2, 1) := by decide +kernel
theorem dX11_refer_57 : decode cX11_refer 57 = .ok (.if_icmp .ne 16, 3) := by decide +kernel
theorem dX11_refer_60 : decode cX11_refer 60 = .ok (.aload_n 0, 1) := by decide +kernel
theorem dX11_refer_61 : decode cX11_refer 61 = .ok (.aload_n 0, 1) := by decide +kernel
theorem dX11_refer_62 : decode cX11_refer 62 = .ok (.getfield 78, 3) := by decide +kernel
theorem dX11_refer_65 : decode cX11_refer 65 = .ok (.iload_n 1, 1) := by decide +kernel
theorem dX11_refer_66 : decode cX11_refer 66 = .ok (.iaload, 1) := by decide +kernel
theorem dX11_refer_67 : decode cX11_refer 67 = .ok (.invokevirtual 271, 3) := by decide +kernel
theorem dX11_refer_70 : decode cX11_refer 70 = .ok (.goto 17, 3) := by decide +kernel
theorem dX11_refer_73 : decode cX11_refer 73 = .ok (.aload_n 0, 1) := by decide +kernel
theorem dX11_refer_74 : decode cX11_refer 74 = .ok (.iload 5, 2) := by decide +kernel
theorem dX11_refer_76 : decode cX11_refer 76 = .ok (.aload_n 0, 1) := by decide +kernel
theorem dX11_refer_77 : decode cX11_refer 77 = .ok (.getfield 75, 3) := by decide +kernel
theorem dX11_refer_80 : decode cX11_refer 80 = .ok (.iload_n 1, 1) := by decide +kernel
theorem dX11_refer_81 : decode cX11_refer 81 = .ok (.iaload, 1) := by decide +kernel
theorem dX11_refer_82 : decode cX11_refer 82 = .ok (.iload 4, 2) := by decide +kernel
theorem dX11_refer_84 : decode cX11_refer 84 = .ok (.invokevirtual 303, 3) := by decide +kernel
theorem dX11_refer_87 : decode cX11_refer 87 = .ok (.aload_n 0, 1) := by decide +kernel
theorem dX11_refer_88 : decode cX11_refer 88 = .ok (.bipush 34, 2) := by decide +kernel
theorem dX11_refer_90 : decode cX11_refer 90 = .ok (.bipush 47, 2) := by decide +kernel
theorem dX11_refer_92 : decode cX11_refer 92 = .ok (.bipush 62, 2) := by decide +kernel
theorem dX11_refer_94 : decode cX11_refer 94 = .ok (.iconst 0, 1) := by decide +kernel
theorem dX11_refer_95 : decode cX11_refer 95 = .ok (.invokevirtual 267, 3) := by decide +kernel
theorem dX11_refer_98 : decode cX11_refer 98 = .ok (.return_, 1) := by decide +kernel
theorem dX11_hasContent_0 : decode cX11_hasContent 0 = .ok (.iconst 0, 1) := by decide +kernel
theorem dX11_hasContent_1 : decode cX11_hasContent 1 = .ok (.istore_n 3, 1) := by decide +kernel
theorem dX11_hasContent_2 : decode cX11_hasContent 2 = .ok (.iconst 0, 1) := by decide +kernel
theorem dX11_hasContent_3 : decode cX11_hasContent 3 = .ok (.istore 4, 2) := by decide +kernel
theorem dX11_hasContent_5 : decode cX11_hasContent 5 = .ok (.iload 4, 2) := by decide +kernel
theorem dX11_hasContent_7 : decode cX11_hasContent 7 = .ok (.aload_n 0, 1) := by decide +kernel
theorem dX11_hasContent_8 : decode cX11_hasContent 8 = .ok (.getfield 13, 3) := by decide +kernel
theorem dX11_hasContent_11 : decode cX11_hasContent 11 = .ok (.iload_n 2, 1) := by decide +kernel
theorem dX11_hasContent_12 : decode cX11_hasContent 12 = .ok (.iaload, 1) := by decide +kernel
theorem dX11_hasContent_13 : decode cX11_hasContent 13 = .ok (.if_icmp .ge 105, 3) := by decide +kernel
theorem dX11_hasContent_16 : decode cX11_hasContent 16 = .ok (.iconst 4, 1) := by decide +kernel
theorem dX11_hasContent_17 : decode cX11_hasContent 17 = .ok (.iload_n 2, 1) := by decide +kernel
theorem dX11_hasContent_18 : decode cX11_hasContent 18 = .ok (.imul, 1) := by decide +kernel
theorem dX11_hasContent_19 : decode cX11_hasContent 19 = .ok (.iload 4, 2) := by decide +kernel
theorem dX11_hasContent_21 : decode cX11_hasContent 21 = .ok (.iadd, 1) := by decide +kernel
theorem dX11_hasContent_22 : decode cX11_hasContent 22 = .ok (.istore 5, 2) := by decide +kernel
theorem dX11_hasContent_24 : decode cX11_hasContent 24 = .ok (.aload_n 0, 1) := by decide +kernel
theorem dX11_hasContent_25 : decode cX11_hasContent 25 = .ok (.getfield 53, 3) := by decide +kernel
theorem dX11_hasContent_28 : decode cX11_hasContent 28 = .ok (.iconst 4, 1) := by decide +kernel
theorem dX11_hasContent_29 : decode cX11_hasContent 29 = .ok (.iload_n 1, 1) := by decide +kernel
theorem dX11_hasContent_30 : decode cX11_hasContent 30 = .ok (.imul, 1) := by decide +kernel
theorem dX11_hasContent_31 : decode cX11_hasContent 31 = .ok (.iload 4, 2) := by decide +kernel
theorem dX11_hasContent_33 : decode cX11_hasContent 33 = .ok (.iadd, 1) := by decide +kernel
theorem dX11_hasContent_34 : decode cX11_hasContent 34 = .ok (.iaload, 1) := by decide +kernel
theorem dX11_hasContent_35 : decode cX11_hasContent 35 = .ok (.istore 6, 2) := by decide +kernel
theorem dX11_hasContent_37 : decode cX11_hasContent 37 = .ok (.iload_n 3, 1) := by decide +kernel
theorem dX11_hasContent_38 : decode cX11_hasContent 38 = .ok (.ifCond .ne 68, 3) := by decide +kernel
theorem dX11_hasContent_41 : decode cX11_hasContent 41 = .ok (.aload_n 0, 1) := by decide +kernel
theorem dX11_hasContent_42 : decode cX11_hasContent 42 = .ok (.getfield 22, 3) := by decide +kernel
theorem dX11_hasContent_45 : decode cX11_hasContent 45 = .ok (.iload 5, 2) := by decide +kernel
theorem dX11_hasContent_47 : decode cX11_hasContent 47 = .ok (.iaload, 1) := by decide +kernel
theorem dX11_hasContent_48 : decode cX11_hasContent 48 = .ok (.iconst 1, 1) := by decide +kernel
theorem dX11_hasContent_49 : decode cX11_hasContent 49 = .ok (.if_icmp .gt 13, 3) := by decide +kernel
theorem dX11_hasContent_52 : decode cX11_hasContent 52 = .ok (.aload_n 0, 1) := by decide +kernel
theorem dX11_hasContent_53 : decode cX11_hasContent 53 = .ok (.getfield 25, 3) := by decide +kernel
theorem dX11_hasContent_56 : decode cX11_hasContent 56 = .ok (.iload 5, 2) := by decide +kernel
theorem dX11_hasContent_58 : decode cX11_hasContent 58 = .ok (.baload, 1) := by decide +kernel
theorem dX11_hasContent_59 : decode cX11_hasContent 59 = .ok (.ifCond .eq 47, 3) := by decide +kernel
theorem dX11_hasContent_62 : decode cX11_hasContent 62 = .ok (.aload_n 0, 1) := by decide +kernel
theorem dX11_hasContent_63 : decode cX11_hasContent 63 = .ok (.getfield 22, 3) := by decide +kernel
theorem dX11_hasContent_66 : decode cX11_hasContent 66 = .ok (.iload 5, 2) := by decide +kernel
theorem dX11_hasContent_68 : decode cX11_hasContent 68 = .ok (.iaload, 1) := by decide +kernel
theorem dX11_hasContent_69 : decode cX11_hasContent 69 = .ok (.iconst 2, 1) := by decide +kernel
theorem dX11_hasContent_70 : decode cX11_hasContent 70 = .ok (.if_icmp .ne 10, 3) := by decide +kernel
theorem dX11_hasContent_73 : decode cX11_hasContent 73 = .ok (.iload 6, 2) := by decide +kernel
theorem dX11_hasContent_75 : decode cX11_hasContent 75 = .ok (.bipush (-2), 2) := by decide +kernel
theorem dX11_hasContent_77 : decode cX11_hasContent 77 = .ok (.if_icmp .ne 29, 3) := by decide +kernel
theorem dX11_hasContent_80 : decode cX11_hasContent 80 = .ok (.aload_n 0, 1) := by decide +kernel
theorem dX11_hasContent_81 : decode cX11_hasContent 81 = .ok (.getfield 22, 3) := by decide +kernel
theorem dX11_hasContent_84 : decode cX11_hasContent 84 = .ok (.iload 5, 2) := by decide +kernel
theorem dX11_hasContent_86 : decode cX11_hasContent 86 = .ok (.iaload, 1) := by decide +kernel
theorem dX11_hasContent_87 : decode cX11_hasContent 87 = .ok (.iconst 3, 1) := by decide +kernel
theorem dX11_hasContent_88 : decode cX11_hasContent 88 = .ok (.if_icmp .ne 22, 3) := by decide +kernel
theorem dX11_hasContent_91 : decode cX11_hasContent 91 = .ok (.aload_n 0, 1) := by decide +kernel
theorem dX11_hasContent_92 : decode cX11_hasContent 92 = .ok (.getfield 25, 3) := by decide +kernel
theorem dX11_hasContent_95 : decode cX11_hasContent 95 = .ok (.iload 5, 2) := by decide +kernel
theorem dX11_hasContent_97 : decode cX11_hasContent 97 = .ok (.baload, 1) := by decide +kernel
theorem dX11_hasContent_98 : decode cX11_hasContent 98 = .ok (.ifCond .eq 8, 3) := by decide +kernel
theorem dX11_hasContent_101 : decode cX11_hasContent 101 = .ok (.iload 6, 2) := by decide +kernel
theorem dX11_hasContent_103 : decode cX11_hasContent 103 = .ok (.ifCond .le 7, 3) := by decide +kernel
theorem dX11_hasContent_106 : decode cX11_hasContent 106 = .ok (.iconst 1, 1) := by decide +kernel
theorem dX11_hasContent_107 : decode cX11_hasContent 107 = .ok (.goto 4, 3) := by decide +kernel
theorem dX11_hasContent_110 : decode cX11_hasContent 110 = .ok (.iconst 0, 1) := by decide +kernel
theorem dX11_hasContent_111 : decode cX11_hasContent 111 = .ok (.istore_n 3, 1) := by decide +kernel
theorem dX11_hasContent_112 : decode cX11_hasContent 112 = .ok (.iinc 4 1, 3) := by decide +kernel
theorem dX11_hasContent_115 : decode cX11_hasContent 115 = .ok (.goto (-110), 3) := by decide +kernel
theorem dX11_hasContent_118 : decode cX11_hasContent 118 = .ok (.iload_n 3, 1) := by decide +kernel
theorem dX11_hasContent_119 : decode cX11_hasContent 119 = .ok (.ireturn, 1) := by decide +kernel
theorem dX11_begin_0 : decode cX11_begin 0 = .ok (.aload_n 0, 1) := by decide +kernel
theorem dX11_begin_1 : decode cX11_begin 1 = .ok (.getfield 50, 3) := by decide +kernel
theorem dX11_begin_4 : decode cX11_begin 4 = .ok (.iload_n 1, 1) := by decide +kernel
theorem dX11_begin_5 : decode cX11_begin 5 = .ok (.iaload, 1) := by decide +kernel
theorem dX11_begin_6 : decode cX11_begin 6 = .ok (.istore 6, 2) := by decide +kernel
theorem dX11_begin_8 : decode cX11_begin 8 = .ok (.aload_n 0, 1) := by decide +kernel
theorem dX11_begin_9 : decode cX11_begin 9 = .ok (.iload_n 2, 1) := by decide +kernel
theorem dX11_begin_10 : decode cX11_begin 10 = .ok (.iload_n 3, 1) := by decide +kernel
theorem dX11_begin_11 : decode cX11_begin 11 = .ok (.invokevirtual 297, 3) := by decide +kernel
theorem dX11_begin_14 : decode cX11_begin 14 = .ok (.istore 7, 2) := by decide +kernel
theorem dX11_begin_16 : decode cX11_begin 16 = .ok (.aload_n 0, 1) := by decide +kernel
theorem dX11_begin_17 : decode cX11_begin 17 = .ok (.dup, 1) := by decide +kernel
theorem dX11_begin_18 : decode cX11_begin 18 = .ok (.getfield 306, 3) := by decide +kernel
theorem dX11_begin_21 : decode cX11_begin 21 = .ok (.iconst 1, 1) := by decide +kernel
theorem dX11_begin_22 : decode cX11_begin 22 = .ok (.iadd, 1) := by decide +kernel
theorem dX11_begin_23 : decode cX11_begin 23 = .ok (.putfield 306, 3) := by decide +kernel
theorem dX11_begin_26 : decode cX11_begin 26 = .ok (.aload_n 0, 1) := by decide +kernel
theorem dX11_begin_27 : decode cX11_begin 27 = .ok (.getfield 75, 3) := by decide +kernel
theorem dX11_begin_30 : decode cX11_begin 30 = .ok (.iload_n 1, 1) := by decide +kernel
theorem dX11_begin_31 : decode cX11_begin 31 = .ok (.iaload, 1) := by decide +kernel
theorem dX11_begin_32 : decode cX11_begin 32 = .ok (.bipush (-2), 2) := by decide +kernel
theorem dX11_begin_34 : decode cX11_begin 34 = .ok (.if_icmp .ne 21, 3) := by decide +kernel
theorem dX11_begin_37 : decode cX11_begin 37 = .ok (.aload_n 0, 1) := by decide +kernel
theorem dX11_begin_38 : decode cX11_begin 38 = .ok (.getfield 75, 3) := by decide +kernel
theorem dX11_begin_41 : decode cX11_begin 41 = .ok (.iload_n 1, 1) := by decide +kernel
theorem dX11_begin_42 : decode cX11_begin 42 = .ok (.iload 7, 2) := by decide +kernel
theorem dX11_begin_44 : decode cX11_begin 44 = .ok (.iastore, 1) := by decide +kernel
theorem dX11_begin_45 : decode cX11_begin 45 = .ok (.aload_n 0, 1) := by decide +kernel
theorem dX11_begin_46 : decode cX11_begin 46 = .ok (.getfield 78, 3) := by decide +kernel
theorem dX11_begin_49 : decode cX11_begin 49 = .ok (.iload_n 1, 1) := by decide +kernel
theorem dX11_begin_50 : decode cX11_begin 50 = .ok (.aload_n 0, 1) := by decide +kernel
theorem dX11_begin_51 : decode cX11_begin 51 = .ok (.getfield 306, 3) := by decide +kernel
theorem dX11_begin_54 : decode cX11_begin 54 = .ok (.iastore, 1) := by decide +kernel
theorem dX11_begin_55 : decode cX11_begin 55 = .ok (.aload_n 0, 1) := by decide +kernel
theorem dX11_begin_56 : decode cX11_begin 56 = .ok (.bipush 60, 2) := by decide +kernel
theorem dX11_begin_58 : decode cX11_begin 58 = .ok (.invokevirtual 260, 3) := by decide +kernel
theorem dX11_begin_61 : decode cX11_begin 61 = .ok (.aload_n 0, 1) := by decide +kernel
theorem dX11_begin_62 : decode cX11_begin 62 = .ok (.iload_n 3, 1) := by decide +kernel
theorem dX11_begin_63 : decode cX11_begin 63 = .ok (.invokevirtual 284, 3) := by decide +kernel
theorem dX11_begin_66 : decode cX11_begin 66 = .ok (.iload 4, 2) := by decide +kernel
theorem dX11_begin_68 : decode cX11_begin 68 = .ok (.ifCond .eq 38, 3) := by decide +kernel
theorem dX11_begin_71 : decode cX11_begin 71 = .ok (.aload_n 0, 1) := by decide +kernel
theorem dX11_begin_72 : decode cX11_begin 72 = .ok (.bipush 99, 2) := by decide +kernel
theorem dX11_begin_74 : decode cX11_begin 74 = .ok (.bipush 108, 2) := by decide +kernel
theorem dX11_begin_76 : decode cX11_begin 76 = .ok (.bipush 97, 2) := by decide +kernel
theorem dX11_begin_78 : decode cX11_begin 78 = .ok (.bipush 115, 2) := by decide +kernel
theorem dX11_begin_80 : decode cX11_begin 80 = .ok (.invokevirtual 300, 3) := by decide +kernel
theorem dX11_begin_83 : decode cX11_begin 83 = .ok (.aload_n 0, 1) := by decide +kernel
theorem dX11_begin_84 : decode cX11_begin 84 = .ok (.bipush 115, 2) := by decide +kernel
theorem dX11_begin_86 : decode cX11_begin 86 = .ok (.bipush 61, 2) := by decide +kernel
theorem dX11_begin_88 : decode cX11_begin 88 = .ok (.bipush 34, 2) := by decide +kernel
theorem dX11_begin_90 : decode cX11_begin 90 = .ok (.iconst 0, 1) := by decide +kernel
theorem dX11_begin_91 : decode cX11_begin 91 = .ok (.invokevirtual 267, 3) := by decide +kernel
theorem dX11_begin_94 : decode cX11_begin 94 = .ok (.aload_n 0, 1) := by decide +kernel
theorem dX11_begin_95 : decode cX11_begin 95 = .ok (.iload 6, 2) := by decide +kernel
theorem dX11_begin_97 : decode cX11_begin 97 = .ok (.invokevirtual 284, 3) := by decide +kernel
theorem dX11_begin_100 : decode cX11_begin 100 = .ok (.aload_n 0, 1) := by decide +kernel
theorem dX11_begin_101 : decode cX11_begin 101 = .ok (.bipush 34, 2) := by decide +kernel
theorem dX11_begin_103 : decode cX11_begin 103 = .ok (.invokevirtual 260, 3) := by decide +kernel
theorem dX11_begin_106 : decode cX11_begin 106 = .ok (.iload 5, 2) := by decide +kernel
theorem dX11_begin_108 : decode cX11_begin 108 = .ok (.iconst 2, 1) := by decide +kernel
theorem dX11_begin_109 : decode cX11_begin 109 = .ok (.if_icmp .ne 31, 3) := by decide +kernel
theorem dX11_begin_112 : decode cX11_begin 112 = .ok (.aload_n 0, 1) := by decide +kernel
theorem dX11_begin_113 : decode cX11_begin 113 = .ok (.bipush 105, 2) := by decide +kernel
theorem dX11_begin_115 : decode cX11_begin 115 = .ok (.bipush 100, 2) := by decide +kernel
theorem dX11_begin_117 : decode cX11_begin 117 = .ok (.bipush 61, 2) := by decide +kernel
theorem dX11_begin_119 : decode cX11_begin 119 = .ok (.bipush 34, 2) := by decide +kernel
theorem dX11_begin_121 : decode cX11_begin 121 = .ok (.invokevirtual 300, 3) := by decide +kernel
theorem dX11_begin_124 : decode cX11_begin 124 = .ok (.aload_n 0, 1) := by decide +kernel
theorem dX11_begin_125 : decode cX11_begin 125 = .ok (.aload_n 0, 1) := by decide +kernel
theorem dX11_begin_126 : decode cX11_begin 126 = .ok (.getfield 78, 3) := by decide +kernel
theorem dX11_begin_129 : decode cX11_begin 129 = .ok (.iload_n 1, 1) := by decide +kernel
theorem dX11_begin_130 : decode cX11_begin 130 = .ok (.iaload, 1) := by decide +kernel
theorem dX11_begin_131 : decode cX11_begin 131 = .ok (.invokevirtual 271, 3) := by decide +kernel
theorem dX11_begin_134 : decode cX11_begin 134 = .ok (.aload_n 0, 1) := by decide +kernel
theorem dX11_begin_135 : decode cX11_begin 135 = .ok (.bipush 34, 2) := by decide +kernel
theorem dX11_begin_137 : decode cX11_begin 137 = .ok (.invokevirtual 260, 3) := by decide +kernel
theorem dX11_begin_140 : decode cX11_begin 140 = .ok (.iconst 0, 1) := by decide +kernel
theorem dX11_begin_141 : decode cX11_begin 141 = .ok (.istore 8, 2) := by decide +kernel
theorem dX11_begin_143 : decode cX11_begin 143 = .ok (.iload 8, 2) := by decide +kernel
theorem dX11_begin_145 : decode cX11_begin 145 = .ok (.aload_n 0, 1) := by decide +kernel
theorem dX11_begin_146 : decode cX11_begin 146 = .ok (.getfield 13, 3) := by decide +kernel
theorem dX11_begin_149 : decode cX11_begin 149 = .ok (.iload 6, 2) := by decide +kernel
theorem dX11_begin_151 : decode cX11_begin 151 = .ok (.iaload, 1) := by decide +kernel
theorem dX11_begin_152 : decode cX11_begin 152 = .ok (.if_icmp .ge 86, 3) := by decide +kernel
theorem dX11_begin_155 : decode cX11_begin 155 = .ok (.aload_n 0, 1) := by decide +kernel
theorem dX11_begin_156 : decode cX11_begin 156 = .ok (.getfield 22, 3) := by decide +kernel
theorem dX11_begin_159 : decode cX11_begin 159 = .ok (.iconst 4, 1) := by decide +kernel
theorem dX11_begin_160 : decode cX11_begin 160 = .ok (.iload 6, 2) := by decide +kernel
theorem dX11_begin_162 : decode cX11_begin 162 = .ok (.imul, 1) := by decide +kernel
theorem dX11_begin_163 : decode cX11_begin 163 = .ok (.iload 8, 2) := by decide +kernel
theorem dX11_begin_165 : decode cX11_begin 165 = .ok (.iadd, 1) := by decide +kernel
theorem dX11_begin_166 : decode cX11_begin 166 = .ok (.iaload, 1) := by decide +kernel
theorem dX11_begin_167 : decode cX11_begin 167 = .ok (.iconst 1, 1) := by decide +kernel
theorem dX11_begin_168 : decode cX11_begin 168 = .ok (.if_icmp .gt 64, 3) := by decide +kernel
theorem dX11_begin_171 : decode cX11_begin 171 = .ok (.aload_n 0, 1) := by decide +kernel
theorem dX11_begin_172 : decode cX11_begin 172 = .ok (.getfield 25, 3) := by decide +kernel
theorem dX11_begin_175 : decode cX11_begin 175 = .ok (.iconst 4, 1) := by decide +kernel
theorem dX11_begin_176 : decode cX11_begin 176 = .ok (.iload 6, 2) := by decide +kernel
theorem dX11_begin_178 : decode cX11_begin 178 = .ok (.imul, 1) := by decide +kernel
theorem dX11_begin_179 : decode cX11_begin 179 = .ok (.iload 8, 2) := by decide +kernel
theorem dX11_begin_181 : decode cX11_begin 181 = .ok (.iadd, 1) := by decide +kernel
theorem dX11_begin_182 : decode cX11_begin 182 = .ok (.baload, 1) := by decide +kernel
theorem dX11_begin_183 : decode cX11_begin 183 = .ok (.ifCond .eq 49, 3) := by decide +kernel
theorem dX11_begin_186 : decode cX11_begin 186 = .ok (.aload_n 0, 1) := by decide +kernel
theorem dX11_begin_187 : decode cX11_begin 187 = .ok (.bipush 32, 2) := by decide +kernel
theorem dX11_begin_189 : decode cX11_begin 189 = .ok (.invokevirtual 260, 3) := by decide +kernel
theorem dX11_begin_192 : decode cX11_begin 192 = .ok (.aload_n 0, 1) := by decide +kernel
theorem dX11_begin_193 : decode cX11_begin 193 = .ok (.bipush 6, 2) := by decide +kernel
theorem dX11_begin_195 : decode cX11_begin 195 = .ok (.iconst 4, 1) := by decide +kernel
theorem dX11_begin_196 : decode cX11_begin 196 = .ok (.iload 6, 2) := by decide +kernel
theorem dX11_begin_198 : decode cX11_begin 198 = .ok (.imul, 1) := by decide +kernel
theorem dX11_begin_199 : decode cX11_begin 199 = .ok (.iadd, 1) := by decide +kernel
theorem dX11_begin_200 : decode cX11_begin 200 = .ok (.iload 8, 2) := by decide +kernel
theorem dX11_begin_202 : decode cX11_begin 202 = .ok (.iadd, 1) := by decide +kernel
theorem dX11_begin_203 : decode cX11_begin 203 = .ok (.invokevirtual 284, 3) := by decide +kernel
theorem dX11_begin_206 : decode cX11_begin 206 = .ok (.aload_n 0, 1) := by decide +kernel
theorem dX11_begin_207 : decode cX11_begin 207 = .ok (.bipush 61, 2) := by decide +kernel
theorem dX11_begin_209 : decode cX11_begin 209 = .ok (.bipush 34, 2) := by decide +kernel
theorem dX11_begin_211 : decode cX11_begin 211 = .ok (.iconst 0, 1) := by decide +kernel
theorem dX11_begin_212 : decode cX11_begin 212 = .ok (.iconst 0, 1) := by decide +kernel
theorem dX11_begin_213 : decode cX11_begin 213 = .ok (.invokevirtual 267, 3) := by decide +kernel
theorem dX11_begin_216 : decode cX11_begin 216 = .ok (.aload_n 0, 1) := by decide +kernel
theorem dX11_begin_217 : decode cX11_begin 217 = .ok (.iload_n 1, 1) := by decide +kernel
theorem dX11_begin_218 : decode cX11_begin 218 = .ok (.iload 8, 2) := by decide +kernel
theorem dX11_begin_220 : decode cX11_begin 220 = .ok (.iload 6, 2) := by decide +kernel
theorem dX11_begin_222 : decode cX11_begin 222 = .ok (.iconst 1, 1) := by decide +kernel
theorem dX11_begin_223 : decode cX11_begin 223 = .ok (.invokevirtual 309, 3) := by decide +kernel
theorem dX11_begin_226 : decode cX11_begin 226 = .ok (.aload_n 0, 1) := by decide +kernel
theorem dX11_begin_227 : decode cX11_begin 227 = .ok (.bipush 34, 2) := by decide +kernel
theorem dX11_begin_229 : decode cX11_begin 229 = .ok (.invokevirtual 260, 3) := by decide +kernel
theorem dX11_begin_232 : decode cX11_begin 232 = .ok (.iinc 8 1, 3) := by decide +kernel
theorem dX11_begin_235 : decode cX11_begin 235 = .ok (.goto (-92), 3) := by decide +kernel
theorem dX11_begin_238 : decode cX11_begin 238 = .ok (.aload_n 0, 1) := by decide +kernel
theorem dX11_begin_239 : decode cX11_begin 239 = .ok (.iload_n 1, 1) := by decide +kernel
theorem dX11_begin_240 : decode cX11_begin 240 = .ok (.iload 6, 2) := by decide +kernel
theorem dX11_begin_242 : decode cX11_begin 242 = .ok (.invokevirtual 313, 3) := by decide +kernel
theorem dX11_begin_245 : decode cX11_begin 245 = .ok (.ifCond .ne 14, 3) := by decide +kernel
theorem dX11_begin_248 : decode cX11_begin 248 = .ok (.aload_n 0, 1) := by decide +kernel
theorem dX11_begin_249 : decode cX11_begin 249 = .ok (.bipush 47, 2) := by decide +kernel
theorem dX11_begin_251 : decode cX11_begin 251 = .ok (.bipush 62, 2) := by decide +kernel
theorem dX11_begin_253 : decode cX11_begin 253 = .ok (.iconst 0, 1) := by decide +kernel
theorem dX11_begin_254 : decode cX11_begin 254 = .ok (.iconst 0, 1) := by decide +kernel
theorem dX11_begin_255 : decode cX11_begin 255 = .ok (.invokevirtual 267, 3) := by decide +kernel
theorem dX11_begin_258 : decode cX11_begin 258 = .ok (.return_, 1) := by decide +kernel
theorem dX11_begin_259 : decode cX11_begin 259 = .ok (.aload_n 0, 1) := by decide +kernel
theorem dX11_begin_260 : decode cX11_begin 260 = .ok (.bipush 62, 2) := by decide +kernel
theorem dX11_begin_262 : decode cX11_begin 262 = .ok (.invokevirtual 260, 3) := by decide +kernel
theorem dX11_begin_265 : decode cX11_begin 265 = .ok (.aload_n 0, 1) := by decide +kernel
theorem dX11_begin_266 : decode cX11_begin 266 = .ok (.getfield 81, 3) := by decide +kernel
theorem dX11_begin_269 : decode cX11_begin 269 = .ok (.aload_n 0, 1) := by decide +kernel
theorem dX11_begin_270 : decode cX11_begin 270 = .ok (.getfield 316, 3) := by decide +kernel
theorem dX11_begin_273 : decode cX11_begin 273 = .ok (.iload_n 1, 1) := by decide +kernel
theorem dX11_begin_274 : decode cX11_begin 274 = .ok (.iastore, 1) := by decide +kernel
theorem dX11_begin_275 : decode cX11_begin 275 = .ok (.aload_n 0, 1) := by decide +kernel
theorem dX11_begin_276 : decode cX11_begin 276 = .ok (.getfield 84, 3) := by decide +kernel
theorem dX11_begin_279 : decode cX11_begin 279 = .ok (.aload_n 0, 1) := by decide +kernel
theorem dX11_begin_280 : decode cX11_begin 280 = .ok (.getfield 316, 3) := by decide +kernel
theorem dX11_begin_283 : decode cX11_begin 283 = .ok (.iload 7, 2) := by decide +kernel
theorem dX11_begin_285 : decode cX11_begin 285 = .ok (.iastore, 1) := by decide +kernel
theorem dX11_begin_286 : decode cX11_begin 286 = .ok (.aload_n 0, 1) := by decide +kernel
theorem dX11_begin_287 : decode cX11_begin 287 = .ok (.getfield 87, 3) := by decide +kernel
theorem dX11_begin_290 : decode cX11_begin 290 = .ok (.aload_n 0, 1) := by decide +kernel
theorem dX11_begin_291 : decode cX11_begin 291 = .ok (.getfield 316, 3) := by decide +kernel
theorem dX11_begin_294 : decode cX11_begin 294 = .ok (.iload_n 3, 1) := by decide +kernel
theorem dX11_begin_295 : decode cX11_begin 295 = .ok (.iastore, 1) := by decide +kernel
theorem dX11_begin_296 : decode cX11_begin 296 = .ok (.aload_n 0, 1) := by decide +kernel
theorem dX11_begin_297 : decode cX11_begin 297 = .ok (.getfield 90, 3) := by decide +kernel
theorem dX11_begin_300 : decode cX11_begin 300 = .ok (.aload_n 0, 1) := by decide +kernel
theorem dX11_begin_301 : decode cX11_begin 301 = .ok (.getfield 316, 3) := by decide +kernel
theorem dX11_begin_304 : decode cX11_begin 304 = .ok (.iconst 0, 1) := by decide +kernel
theorem dX11_begin_305 : decode cX11_begin 305 = .ok (.iastore, 1) := by decide +kernel
theorem dX11_begin_306 : decode cX11_begin 306 = .ok (.aload_n 0, 1) := by decide +kernel
theorem dX11_begin_307 : decode cX11_begin 307 = .ok (.getfield 93, 3) := by decide +kernel
theorem dX11_begin_310 : decode cX11_begin 310 = .ok (.aload_n 0, 1) := by decide +kernel
theorem dX11_begin_311 : decode cX11_begin 311 = .ok (.getfield 316, 3) := by decide +kernel
theorem dX11_begin_314 : decode cX11_begin 314 = .ok (.iconst 0, 1) := by decide +kernel
theorem dX11_begin_315 : decode cX11_begin 315 = .ok (.iastore, 1) := by decide +kernel
theorem dX11_begin_316 : decode cX11_begin 316 = .ok (.aload_n 0, 1) := by decide +kernel
theorem dX11_begin_317 : decode cX11_begin 317 = .ok (.getfield 96, 3) := by decide +kernel
theorem dX11_begin_320 : decode cX11_begin 320 = .ok (.aload_n 0, 1) := by decide +kernel
theorem dX11_begin_321 : decode cX11_begin 321 = .ok (.getfield 316, 3) := by decide +kernel
theorem dX11_begin_324 : decode cX11_begin 324 = .ok (.bipush (-2), 2) := by decide +kernel
theorem dX11_begin_326 : decode cX11_begin 326 = .ok (.iastore, 1) := by decide +kernel
theorem dX11_begin_327 : decode cX11_begin 327 = .ok (.aload_n 0, 1) := by decide +kernel
theorem dX11_begin_328 : decode cX11_begin 328 = .ok (.dup, 1) := by decide +kernel
theorem dX11_begin_329 : decode cX11_begin 329 = .ok (.getfield 316, 3) := by decide +kernel
theorem dX11_begin_332 : decode cX11_begin 332 = .ok (.iconst 1, 1) := by decide +kernel
theorem dX11_begin_333 : decode cX11_begin 333 = .ok (.iadd, 1) := by decide +kernel
theorem dX11_begin_334 : decode cX11_begin 334 = .ok (.putfield 316, 3) := by decide +kernel
theorem dX11_begin_337 : decode cX11_begin 337 = .ok (.return_, 1) := by decide +kernel
theorem dX11_end_0 : decode cX11_end 0 = .ok (.aload_n 0, 1) := by decide +kernel
theorem dX11_end_1 : decode cX11_end 1 = .ok (.bipush 60, 2) := by decide +kernel
theorem dX11_end_3 : decode cX11_end 3 = .ok (.bipush 47, 2) := by decide +kernel
theorem dX11_end_5 : decode cX11_end 5 = .ok (.iconst 0, 1) := by decide +kernel
theorem dX11_end_6 : decode cX11_end 6 = .ok (.iconst 0, 1) := by decide +kernel
theorem dX11_end_7 : decode cX11_end 7 = .ok (.invokevirtual 267, 3) := by decide +kernel
theorem dX11_end_10 : decode cX11_end 10 = .ok (.aload_n 0, 1) := by decide +kernel
theorem dX11_end_11 : decode cX11_end 11 = .ok (.iload_n 1, 1) := by decide +kernel
theorem dX11_end_12 : decode cX11_end 12 = .ok (.invokevirtual 284, 3) := by decide +kernel
theorem dX11_end_15 : decode cX11_end 15 = .ok (.aload_n 0, 1) := by decide +kernel
theorem dX11_end_16 : decode cX11_end 16 = .ok (.bipush 62, 2) := by decide +kernel
theorem dX11_end_18 : decode cX11_end 18 = .ok (.invokevirtual 260, 3) := by decide +kernel
theorem dX11_end_21 : decode cX11_end 21 = .ok (.return_, 1) := by decide +kernel
theorem dX11_child_0 : decode cX11_child 0 = .ok (.iload 5, 2) := by decide +kernel
theorem dX11_child_2 : decode cX11_child 2 = .ok (.iconst 3, 1) := by decide +kernel
theorem dX11_child_3 : decode cX11_child 3 = .ok (.if_icmp .eq 25, 3) := by decide +kernel
theorem dX11_child_6 : decode cX11_child 6 = .ok (.aload_n 0, 1) := by decide +kernel
theorem dX11_child_7 : decode cX11_child 7 = .ok (.getfield 75, 3) := by decide +kernel
theorem dX11_child_10 : decode cX11_child 10 = .ok (.iload_n 1, 1) := by decide +kernel
theorem dX11_child_11 : decode cX11_child 11 = .ok (.iaload, 1) := by decide +kernel
theorem dX11_child_12 : decode cX11_child 12 = .ok (.bipush (-2), 2) := by decide +kernel
theorem dX11_child_14 : decode cX11_child 14 = .ok (.if_icmp .eq 14, 3) := by decide +kernel
theorem dX11_child_17 : decode cX11_child 17 = .ok (.aload_n 0, 1) := by decide +kernel
theorem dX11_child_18 : decode cX11_child 18 = .ok (.iload_n 1, 1) := by decide +kernel
theorem dX11_child_19 : decode cX11_child 19 = .ok (.iload_n 2, 1) := by decide +kernel
theorem dX11_child_20 : decode cX11_child 20 = .ok (.iload_n 3, 1) := by decide +kernel
theorem dX11_child_21 : decode cX11_child 21 = .ok (.iload 5, 2) := by decide +kernel
theorem dX11_child_23 : decode cX11_child 23 = .ok (.invokevirtual 319, 3) := by decide +kernel
theorem dX11_child_26 : decode cX11_child 26 = .ok (.iconst 1, 1) := by decide +kernel
theorem dX11_child_27 : decode cX11_child 27 = .ok (.ireturn, 1) := by decide +kernel
theorem dX11_child_28 : decode cX11_child 28 = .ok (.aload_n 0, 1) := by decide +kernel
theorem dX11_child_29 : decode cX11_child 29 = .ok (.getfield 316, 3) := by decide +kernel
theorem dX11_child_32 : decode cX11_child 32 = .ok (.aload_n 0, 1) := by decide +kernel
theorem dX11_child_33 : decode cX11_child 33 = .ok (.getfield 59, 3) := by decide +kernel
theorem dX11_child_36 : decode cX11_child 36 = .ok (.if_icmp .ne 5, 3) := by decide +kernel
theorem dX11_child_39 : decode cX11_child 39 = .ok (.iconst 0, 1) := by decide +kernel
theorem dX11_child_40 : decode cX11_child 40 = .ok (.ireturn, 1) := by decide +kernel
theorem dX11_child_41 : decode cX11_child 41 = .ok (.aload_n 0, 1) := by decide +kernel
theorem dX11_child_42 : decode cX11_child 42 = .ok (.iload_n 1, 1) := by decide +kernel
theorem dX11_child_43 : decode cX11_child 43 = .ok (.iload_n 2, 1) := by decide +kernel
theorem dX11_child_44 : decode cX11_child 44 = .ok (.iload_n 3, 1) := by decide +kernel
theorem dX11_child_45 : decode cX11_child 45 = .ok (.iload 4, 2) := by decide +kernel
theorem dX11_child_47 : decode cX11_child 47 = .ok (.iload 5, 2) := by decide +kernel
theorem dX11_child_49 : decode cX11_child 49 = .ok (.invokevirtual 322, 3) := by decide +kernel
theorem dX11_child_52 : decode cX11_child 52 = .ok (.iconst 1, 1) := by decide +kernel
theorem dX11_child_53 : decode cX11_child 53 = .ok (.ireturn, 1) := by decide +kernel
theorem dX11_goesOn_0 : decode cX11_goesOn 0 = .ok (.aload_n 0, 1) := by decide +kernel
theorem dX11_goesOn_1 : decode cX11_goesOn 1 = .ok (.getfield 316, 3) := by decide +kernel
theorem dX11_goesOn_4 : decode cX11_goesOn 4 = .ok (.iconst 1, 1) := by decide +kernel
theorem dX11_goesOn_5 : decode cX11_goesOn 5 = .ok (.isub, 1) := by decide +kernel
theorem dX11_goesOn_6 : decode cX11_goesOn 6 = .ok (.istore_n 2, 1) := by decide +kernel
theorem dX11_goesOn_7 : decode cX11_goesOn 7 = .ok (.aload_n 0, 1) := by decide +kernel
theorem dX11_goesOn_8 : decode cX11_goesOn 8 = .ok (.getfield 81, 3) := by decide +kernel
theorem dX11_goesOn_11 : decode cX11_goesOn 11 = .ok (.iload_n 2, 1) := by decide +kernel
theorem dX11_goesOn_12 : decode cX11_goesOn 12 = .ok (.iaload, 1) := by decide +kernel
theorem dX11_goesOn_13 : decode cX11_goesOn 13 = .ok (.istore_n 3, 1) := by decide +kernel
theorem dX11_goesOn_14 : decode cX11_goesOn 14 = .ok (.aload_n 0, 1) := by decide +kernel
theorem dX11_goesOn_15 : decode cX11_goesOn 15 = .ok (.getfield 50, 3) := by decide +kernel
theorem dX11_goesOn_18 : decode cX11_goesOn 18 = .ok (.iload_n 3, 1) := by decide +kernel
theorem dX11_goesOn_19 : decode cX11_goesOn 19 = .ok (.iaload, 1) := by decide +kernel
theorem dX11_goesOn_20 : decode cX11_goesOn 20 = .ok (.istore 4, 2) := by decide +kernel
theorem dX11_goesOn_22 : decode cX11_goesOn 22 = .ok (.aload_n 0, 1) := by decide +kernel
theorem dX11_goesOn_23 : decode cX11_goesOn 23 = .ok (.getfield 90, 3) := by decide +kernel
theorem dX11_goesOn_26 : decode cX11_goesOn 26 = .ok (.iload_n 2, 1) := by decide +kernel
theorem dX11_goesOn_27 : decode cX11_goesOn 27 = .ok (.iaload, 1) := by decide +kernel
theorem dX11_goesOn_28 : decode cX11_goesOn 28 = .ok (.istore 5, 2) := by decide +kernel
theorem dX11_goesOn_30 : decode cX11_goesOn 30 = .ok (.iload 5, 2) := by decide +kernel
theorem dX11_goesOn_32 : decode cX11_goesOn 32 = .ok (.aload_n 0, 1) := by decide +kernel
theorem dX11_goesOn_33 : decode cX11_goesOn 33 = .ok (.getfield 13, 3) := by decide +kernel
theorem dX11_goesOn_36 : decode cX11_goesOn 36 = .ok (.iload 4, 2) := by decide +kernel
theorem dX11_goesOn_38 : decode cX11_goesOn 38 = .ok (.iaload, 1) := by decide +kernel
theorem dX11_goesOn_39 : decode cX11_goesOn 39 = .ok (.if_icmp .ne 25, 3) := by decide +kernel
theorem dX11_goesOn_42 : decode cX11_goesOn 42 = .ok (.aload_n 0, 1) := by decide +kernel
theorem dX11_goesOn_43 : decode cX11_goesOn 43 = .ok (.dup, 1) := by decide +kernel
theorem dX11_goesOn_44 : decode cX11_goesOn 44 = .ok (.getfield 316, 3) := by decide +kernel
theorem dX11_goesOn_47 : decode cX11_goesOn 47 = .ok (.iconst 1, 1) := by decide +kernel
theorem dX11_goesOn_48 : decode cX11_goesOn 48 = .ok (.isub, 1) := by decide +kernel
theorem dX11_goesOn_49 : decode cX11_goesOn 49 = .ok (.putfield 316, 3) := by decide +kernel
theorem dX11_goesOn_52 : decode cX11_goesOn 52 = .ok (.aload_n 0, 1) := by decide +kernel
theorem dX11_goesOn_53 : decode cX11_goesOn 53 = .ok (.aload_n 0, 1) := by decide +kernel
theorem dX11_goesOn_54 : decode cX11_goesOn 54 = .ok (.getfield 87, 3) := by decide +kernel
theorem dX11_goesOn_57 : decode cX11_goesOn 57 = .ok (.iload_n 2, 1) := by decide +kernel
theorem dX11_goesOn_58 : decode cX11_goesOn 58 = .ok (.iaload, 1) := by decide +kernel
theorem dX11_goesOn_59 : decode cX11_goesOn 59 = .ok (.invokevirtual 326, 3) := by decide +kernel
theorem dX11_goesOn_62 : decode cX11_goesOn 62 = .ok (.iconst 1, 1) := by decide +kernel
theorem dX11_goesOn_63 : decode cX11_goesOn 63 = .ok (.ireturn, 1) := by decide +kernel
theorem dX11_goesOn_64 : decode cX11_goesOn 64 = .ok (.iconst 4, 1) := by decide +kernel
theorem dX11_goesOn_65 : decode cX11_goesOn 65 = .ok (.iload 4, 2) := by decide +kernel
theorem dX11_goesOn_67 : decode cX11_goesOn 67 = .ok (.imul, 1) := by decide +kernel
theorem dX11_goesOn_68 : decode cX11_goesOn 68 = .ok (.iload 5, 2) := by decide +kernel
theorem dX11_goesOn_70 : decode cX11_goesOn 70 = .ok (.iadd, 1) := by decide +kernel
theorem dX11_goesOn_71 : decode cX11_goesOn 71 = .ok (.istore 6, 2) := by decide +kernel
theorem dX11_goesOn_73 : decode cX11_goesOn 73 = .ok (.bipush 6, 2) := by decide +kernel
theorem dX11_goesOn_75 : decode cX11_goesOn 75 = .ok (.iload 6, 2) := by decide +kernel
theorem dX11_goesOn_77 : decode cX11_goesOn 77 = .ok (.iadd, 1) := by decide +kernel
theorem dX11_goesOn_78 : decode cX11_goesOn 78 = .ok (.istore 7, 2) := by decide +kernel
theorem dX11_goesOn_80 : decode cX11_goesOn 80 = .ok (.aload_n 0, 1) := by decide +kernel
theorem dX11_goesOn_81 : decode cX11_goesOn 81 = .ok (.getfield 53, 3) := by decide +kernel
theorem dX11_goesOn_84 : decode cX11_goesOn 84 = .ok (.iconst 4, 1) := by decide +kernel
theorem dX11_goesOn_85 : decode cX11_goesOn 85 = .ok (.iload_n 3, 1) := by decide +kernel
theorem dX11_goesOn_86 : decode cX11_goesOn 86 = .ok (.imul, 1) := by decide +kernel
theorem dX11_goesOn_87 : decode cX11_goesOn 87 = .ok (.iload 5, 2) := by decide +kernel
theorem dX11_goesOn_89 : decode cX11_goesOn 89 = .ok (.iadd, 1) := by decide +kernel
theorem dX11_goesOn_90 : decode cX11_goesOn 90 = .ok (.iaload, 1) := by decide +kernel
theorem dX11_goesOn_91 : decode cX11_goesOn 91 = .ok (.istore 8, 2) := by decide +kernel
theorem dX11_goesOn_93 : decode cX11_goesOn 93 = .ok (.aload_n 0, 1) := by decide +kernel
theorem dX11_goesOn_94 : decode cX11_goesOn 94 = .ok (.getfield 22, 3) := by decide +kernel
theorem dX11_goesOn_97 : decode cX11_goesOn 97 = .ok (.iload 6, 2) := by decide +kernel
theorem dX11_goesOn_99 : decode cX11_goesOn 99 = .ok (.iaload, 1) := by decide +kernel
theorem dX11_goesOn_100 : decode cX11_goesOn 100 = .ok (.iconst 3, 1) := by decide +kernel
theorem dX11_goesOn_101 : decode cX11_goesOn 101 = .ok (.if_icmp .ne 14, 3) := by decide +kernel
theorem dX11_goesOn_104 : decode cX11_goesOn 104 = .ok (.aload_n 0, 1) := by decide +kernel
theorem dX11_goesOn_105 : decode cX11_goesOn 105 = .ok (.iload_n 2, 1) := by decide +kernel
theorem dX11_goesOn_106 : decode cX11_goesOn 106 = .ok (.iload 6, 2) := by decide +kernel
theorem dX11_goesOn_108 : decode cX11_goesOn 108 = .ok (.iload 8, 2) := by decide +kernel
theorem dX11_goesOn_110 : decode cX11_goesOn 110 = .ok (.iload_n 1, 1) := by decide +kernel
theorem dX11_goesOn_111 : decode cX11_goesOn 111 = .ok (.invokevirtual 329, 3) := by decide +kernel
theorem dX11_goesOn_114 : decode cX11_goesOn 114 = .ok (.ireturn, 1) := by decide +kernel
theorem dX11_goesOn_115 : decode cX11_goesOn 115 = .ok (.aload_n 0, 1) := by decide +kernel
theorem dX11_goesOn_116 : decode cX11_goesOn 116 = .ok (.getfield 90, 3) := by decide +kernel
theorem dX11_goesOn_119 : decode cX11_goesOn 119 = .ok (.iload_n 2, 1) := by decide +kernel
theorem dX11_goesOn_120 : decode cX11_goesOn 120 = .ok (.dup2, 1) := by decide +kernel
theorem dX11_goesOn_121 : decode cX11_goesOn 121 = .ok (.iaload, 1) := by decide +kernel
theorem dX11_goesOn_122 : decode cX11_goesOn 122 = .ok (.iconst 1, 1) := by decide +kernel
theorem dX11_goesOn_123 : decode cX11_goesOn 123 = .ok (.iadd, 1) := by decide +kernel
theorem dX11_goesOn_124 : decode cX11_goesOn 124 = .ok (.iastore, 1) := by decide +kernel
theorem dX11_goesOn_125 : decode cX11_goesOn 125 = .ok (.aload_n 0, 1) := by decide +kernel
theorem dX11_goesOn_126 : decode cX11_goesOn 126 = .ok (.getfield 22, 3) := by decide +kernel
theorem dX11_goesOn_129 : decode cX11_goesOn 129 = .ok (.iload 6, 2) := by decide +kernel
theorem dX11_goesOn_131 : decode cX11_goesOn 131 = .ok (.iaload, 1) := by decide +kernel
theorem dX11_goesOn_132 : decode cX11_goesOn 132 = .ok (.iconst 2, 1) := by decide +kernel
theorem dX11_goesOn_133 : decode cX11_goesOn 133 = .ok (.if_icmp .ne 35, 3) := by decide +kernel
theorem dX11_goesOn_136 : decode cX11_goesOn 136 = .ok (.iload 8, 2) := by decide +kernel
theorem dX11_goesOn_138 : decode cX11_goesOn 138 = .ok (.bipush (-2), 2) := by decide +kernel
theorem dX11_goesOn_140 : decode cX11_goesOn 140 = .ok (.if_icmp .eq 22, 3) := by decide +kernel
theorem dX11_goesOn_143 : decode cX11_goesOn 143 = .ok (.aload_n 0, 1) := by decide +kernel
theorem dX11_goesOn_144 : decode cX11_goesOn 144 = .ok (.iload 8, 2) := by decide +kernel
theorem dX11_goesOn_146 : decode cX11_goesOn 146 = .ok (.aload_n 0, 1) := by decide +kernel
theorem dX11_goesOn_147 : decode cX11_goesOn 147 = .ok (.getfield 84, 3) := by decide +kernel
theorem dX11_goesOn_150 : decode cX11_goesOn 150 = .ok (.iload_n 2, 1) := by decide +kernel
theorem dX11_goesOn_151 : decode cX11_goesOn 151 = .ok (.iaload, 1) := by decide +kernel
theorem dX11_goesOn_152 : decode cX11_goesOn 152 = .ok (.iload 7, 2) := by decide +kernel
theorem dX11_goesOn_154 : decode cX11_goesOn 154 = .ok (.iconst 1, 1) := by decide +kernel
theorem dX11_goesOn_155 : decode cX11_goesOn 155 = .ok (.iload_n 1, 1) := by decide +kernel
theorem dX11_goesOn_156 : decode cX11_goesOn 156 = .ok (.invokevirtual 333, 3) := by decide +kernel
theorem dX11_goesOn_159 : decode cX11_goesOn 159 = .ok (.ifCond .eq 7, 3) := by decide +kernel
theorem dX11_goesOn_162 : decode cX11_goesOn 162 = .ok (.iconst 1, 1) := by decide +kernel
theorem dX11_goesOn_163 : decode cX11_goesOn 163 = .ok (.goto 4, 3) := by decide +kernel
theorem dX11_goesOn_166 : decode cX11_goesOn 166 = .ok (.iconst 0, 1) := by decide +kernel
theorem dX11_goesOn_167 : decode cX11_goesOn 167 = .ok (.ireturn, 1) := by decide +kernel
theorem dX11_goesOn_168 : decode cX11_goesOn 168 = .ok (.aload_n 0, 1) := by decide +kernel
theorem dX11_goesOn_169 : decode cX11_goesOn 169 = .ok (.getfield 25, 3) := by decide +kernel
theorem dX11_goesOn_172 : decode cX11_goesOn 172 = .ok (.iload 6, 2) := by decide +kernel
theorem dX11_goesOn_174 : decode cX11_goesOn 174 = .ok (.baload, 1) := by decide +kernel
theorem dX11_goesOn_175 : decode cX11_goesOn 175 = .ok (.ifCond .ne 79, 3) := by decide +kernel
theorem dX11_goesOn_178 : decode cX11_goesOn 178 = .ok (.aload_n 0, 1) := by decide +kernel
theorem dX11_goesOn_179 : decode cX11_goesOn 179 = .ok (.aload_n 0, 1) := by decide +kernel
theorem dX11_goesOn_180 : decode cX11_goesOn 180 = .ok (.getfield 84, 3) := by decide +kernel
theorem dX11_goesOn_183 : decode cX11_goesOn 183 = .ok (.iload_n 2, 1) := by decide +kernel
theorem dX11_goesOn_184 : decode cX11_goesOn 184 = .ok (.iaload, 1) := by decide +kernel
theorem dX11_goesOn_185 : decode cX11_goesOn 185 = .ok (.iload 7, 2) := by decide +kernel
theorem dX11_goesOn_187 : decode cX11_goesOn 187 = .ok (.invokevirtual 297, 3) := by decide +kernel
theorem dX11_goesOn_190 : decode cX11_goesOn 190 = .ok (.istore 9, 2) := by decide +kernel
theorem dX11_goesOn_192 : decode cX11_goesOn 192 = .ok (.aload_n 0, 1) := by decide +kernel
theorem dX11_goesOn_193 : decode cX11_goesOn 193 = .ok (.bipush 60, 2) := by decide +kernel
theorem dX11_goesOn_195 : decode cX11_goesOn 195 = .ok (.invokevirtual 260, 3) := by decide +kernel
theorem dX11_goesOn_198 : decode cX11_goesOn 198 = .ok (.aload_n 0, 1) := by decide +kernel
theorem dX11_goesOn_199 : decode cX11_goesOn 199 = .ok (.iload 7, 2) := by decide +kernel
theorem dX11_goesOn_201 : decode cX11_goesOn 201 = .ok (.invokevirtual 284, 3) := by decide +kernel
theorem dX11_goesOn_204 : decode cX11_goesOn 204 = .ok (.aload_n 0, 1) := by decide +kernel
theorem dX11_goesOn_205 : decode cX11_goesOn 205 = .ok (.getfield 22, 3) := by decide +kernel
theorem dX11_goesOn_208 : decode cX11_goesOn 208 = .ok (.iload 6, 2) := by decide +kernel
theorem dX11_goesOn_210 : decode cX11_goesOn 210 = .ok (.iaload, 1) := by decide +kernel
theorem dX11_goesOn_211 : decode cX11_goesOn 211 = .ok (.iconst 1, 1) := by decide +kernel
theorem dX11_goesOn_212 : decode cX11_goesOn 212 = .ok (.if_icmp .ne 20, 3) := by decide +kernel
theorem dX11_goesOn_215 : decode cX11_goesOn 215 = .ok (.iload 8, 2) := by decide +kernel
theorem dX11_goesOn_217 : decode cX11_goesOn 217 = .ok (.ifCond .ne 15, 3) := by decide +kernel
theorem dX11_goesOn_220 : decode cX11_goesOn 220 = .ok (.aload_n 0, 1) := by decide +kernel
theorem dX11_goesOn_221 : decode cX11_goesOn 221 = .ok (.bipush 47, 2) := by decide +kernel
theorem dX11_goesOn_223 : decode cX11_goesOn 223 = .ok (.bipush 62, 2) := by decide +kernel
theorem dX11_goesOn_225 : decode cX11_goesOn 225 = .ok (.iconst 0, 1) := by decide +kernel
theorem dX11_goesOn_226 : decode cX11_goesOn 226 = .ok (.iconst 0, 1) := by decide +kernel
theorem dX11_goesOn_227 : decode cX11_goesOn 227 = .ok (.invokevirtual 267, 3) := by decide +kernel
theorem dX11_goesOn_230 : decode cX11_goesOn 230 = .ok (.iconst 1, 1) := by decide +kernel
theorem dX11_goesOn_231 : decode cX11_goesOn 231 = .ok (.ireturn, 1) := by decide +kernel
theorem dX11_goesOn_232 : decode cX11_goesOn 232 = .ok (.aload_n 0, 1) := by decide +kernel
theorem dX11_goesOn_233 : decode cX11_goesOn 233 = .ok (.bipush 62, 2) := by decide +kernel
theorem dX11_goesOn_235 : decode cX11_goesOn 235 = .ok (.invokevirtual 260, 3) := by decide +kernel
theorem dX11_goesOn_238 : decode cX11_goesOn 238 = .ok (.aload_n 0, 1) := by decide +kernel
theorem dX11_goesOn_239 : decode cX11_goesOn 239 = .ok (.iload_n 3, 1) := by decide +kernel
theorem dX11_goesOn_240 : decode cX11_goesOn 240 = .ok (.iload 5, 2) := by decide +kernel
theorem dX11_goesOn_242 : decode cX11_goesOn 242 = .ok (.iload 4, 2) := by decide +kernel
theorem dX11_goesOn_244 : decode cX11_goesOn 244 = .ok (.iconst 0, 1) := by decide +kernel
theorem dX11_goesOn_245 : decode cX11_goesOn 245 = .ok (.invokevirtual 309, 3) := by decide +kernel
theorem dX11_goesOn_248 : decode cX11_goesOn 248 = .ok (.aload_n 0, 1) := by decide +kernel
theorem dX11_goesOn_249 : decode cX11_goesOn 249 = .ok (.iload 7, 2) := by decide +kernel
theorem dX11_goesOn_251 : decode cX11_goesOn 251 = .ok (.invokevirtual 326, 3) := by decide +kernel
theorem dX11_goesOn_254 : decode cX11_goesOn 254 = .ok (.iconst 1, 1) := by decide +kernel
theorem dX11_goesOn_255 : decode cX11_goesOn 255 = .ok (.ireturn, 1) := by decide +kernel
theorem dX11_lists_0 : decode cX11_lists 0 = .ok (.bipush 6, 2) := by decide +kernel
theorem dX11_lists_2 : decode cX11_lists 2 = .ok (.iload_n 2, 1) := by decide +kernel
theorem dX11_lists_3 : decode cX11_lists 3 = .ok (.iadd, 1) := by decide +kernel
theorem dX11_lists_4 : decode cX11_lists 4 = .ok (.istore 5, 2) := by decide +kernel
theorem dX11_lists_6 : decode cX11_lists 6 = .ok (.aload_n 0, 1) := by decide +kernel
theorem dX11_lists_7 : decode cX11_lists 7 = .ok (.getfield 93, 3) := by decide +kernel
theorem dX11_lists_10 : decode cX11_lists 10 = .ok (.iload_n 1, 1) := by decide +kernel
theorem dX11_lists_11 : decode cX11_lists 11 = .ok (.iaload, 1) := by decide +kernel
theorem dX11_lists_12 : decode cX11_lists 12 = .ok (.istore 6, 2) := by decide +kernel
theorem dX11_lists_14 : decode cX11_lists 14 = .ok (.iload 6, 2) := by decide +kernel
theorem dX11_lists_16 : decode cX11_lists 16 = .ok (.ifCond .ne 58, 3) := by decide +kernel
theorem dX11_lists_19 : decode cX11_lists 19 = .ok (.aload_n 0, 1) := by decide +kernel
theorem dX11_lists_20 : decode cX11_lists 20 = .ok (.getfield 25, 3) := by decide +kernel
theorem dX11_lists_23 : decode cX11_lists 23 = .ok (.iload_n 2, 1) := by decide +kernel
theorem dX11_lists_24 : decode cX11_lists 24 = .ok (.baload, 1) := by decide +kernel
theorem dX11_lists_25 : decode cX11_lists 25 = .ok (.ifCond .ne 49, 3) := by decide +kernel
theorem dX11_lists_28 : decode cX11_lists 28 = .ok (.aload_n 0, 1) := by decide +kernel
theorem dX11_lists_29 : decode cX11_lists 29 = .ok (.getfield 96, 3) := by decide +kernel
theorem dX11_lists_32 : decode cX11_lists 32 = .ok (.iload_n 1, 1) := by decide +kernel
theorem dX11_lists_33 : decode cX11_lists 33 = .ok (.aload_n 0, 1) := by decide +kernel
theorem dX11_lists_34 : decode cX11_lists 34 = .ok (.aload_n 0, 1) := by decide +kernel
theorem dX11_lists_35 : decode cX11_lists 35 = .ok (.getfield 84, 3) := by decide +kernel
theorem dX11_lists_38 : decode cX11_lists 38 = .ok (.iload_n 1, 1) := by decide +kernel
theorem dX11_lists_39 : decode cX11_lists 39 = .ok (.iaload, 1) := by decide +kernel
theorem dX11_lists_40 : decode cX11_lists 40 = .ok (.iload 5, 2) := by decide +kernel
theorem dX11_lists_42 : decode cX11_lists 42 = .ok (.invokevirtual 297, 3) := by decide +kernel
theorem dX11_lists_45 : decode cX11_lists 45 = .ok (.iastore, 1) := by decide +kernel
theorem dX11_lists_46 : decode cX11_lists 46 = .ok (.aload_n 0, 1) := by decide +kernel
theorem dX11_lists_47 : decode cX11_lists 47 = .ok (.bipush 60, 2) := by decide +kernel
theorem dX11_lists_49 : decode cX11_lists 49 = .ok (.invokevirtual 260, 3) := by decide +kernel
theorem dX11_lists_52 : decode cX11_lists 52 = .ok (.aload_n 0, 1) := by decide +kernel
theorem dX11_lists_53 : decode cX11_lists 53 = .ok (.iload 5, 2) := by decide +kernel
theorem dX11_lists_55 : decode cX11_lists 55 = .ok (.invokevirtual 284, 3) := by decide +kernel
theorem dX11_lists_58 : decode cX11_lists 58 = .ok (.iload_n 3, 1) := by decide +kernel
theorem dX11_lists_59 : decode cX11_lists 59 = .ok (.ifCond .ne 9, 3) := by decide +kernel
theorem dX11_lists_62 : decode cX11_lists 62 = .ok (.aload_n 0, 1) := by decide +kernel
theorem dX11_lists_63 : decode cX11_lists 63 = .ok (.bipush 47, 2) := by decide +kernel
theorem dX11_lists_65 : decode cX11_lists 65 = .ok (.invokevirtual 260, 3) := by decide +kernel
theorem dX11_lists_68 : decode cX11_lists 68 = .ok (.aload_n 0, 1) := by decide +kernel
theorem dX11_lists_69 : decode cX11_lists 69 = .ok (.bipush 62, 2) := by decide +kernel
theorem dX11_lists_71 : decode cX11_lists 71 = .ok (.invokevirtual 260, 3) := by decide +kernel
theorem dX11_lists_74 : decode cX11_lists 74 = .ok (.iload 6, 2) := by decide +kernel
theorem dX11_lists_76 : decode cX11_lists 76 = .ok (.iload_n 3, 1) := by decide +kernel
theorem dX11_lists_77 : decode cX11_lists 77 = .ok (.if_icmp .ge 82, 3) := by decide +kernel
theorem dX11_lists_80 : decode cX11_lists 80 = .ok (.aload_n 0, 1) := by decide +kernel
theorem dX11_lists_81 : decode cX11_lists 81 = .ok (.getfield 93, 3) := by decide +kernel
theorem dX11_lists_84 : decode cX11_lists 84 = .ok (.iload_n 1, 1) := by decide +kernel
theorem dX11_lists_85 : decode cX11_lists 85 = .ok (.dup2, 1) := by decide +kernel
theorem dX11_lists_86 : decode cX11_lists 86 = .ok (.iaload, 1) := by decide +kernel
theorem dX11_lists_87 : decode cX11_lists 87 = .ok (.iconst 1, 1) := by decide +kernel
theorem dX11_lists_88 : decode cX11_lists 88 = .ok (.iadd, 1) := by decide +kernel
theorem dX11_lists_89 : decode cX11_lists 89 = .ok (.iastore, 1) := by decide +kernel
theorem dX11_lists_90 : decode cX11_lists 90 = .ok (.aload_n 0, 1) := by decide +kernel
theorem dX11_lists_91 : decode cX11_lists 91 = .ok (.getfield 56, 3) := by decide +kernel
theorem dX11_lists_94 : decode cX11_lists 94 = .ok (.bipush 20, 2) := by decide +kernel
theorem dX11_lists_96 : decode cX11_lists 96 = .ok (.iconst 4, 1) := by decide +kernel
theorem dX11_lists_97 : decode cX11_lists 97 = .ok (.aload_n 0, 1) := by decide +kernel
theorem dX11_lists_98 : decode cX11_lists 98 = .ok (.getfield 81, 3) := by decide +kernel
theorem dX11_lists_101 : decode cX11_lists 101 = .ok (.iload_n 1, 1) := by decide +kernel
theorem dX11_lists_102 : decode cX11_lists 102 = .ok (.iaload, 1) := by decide +kernel
theorem dX11_lists_103 : decode cX11_lists 103 = .ok (.imul, 1) := by decide +kernel
theorem dX11_lists_104 : decode cX11_lists 104 = .ok (.aload_n 0, 1) := by decide +kernel
theorem dX11_lists_105 : decode cX11_lists 105 = .ok (.getfield 90, 3) := by decide +kernel
theorem dX11_lists_108 : decode cX11_lists 108 = .ok (.iload_n 1, 1) := by decide +kernel
theorem dX11_lists_109 : decode cX11_lists 109 = .ok (.iaload, 1) := by decide +kernel
theorem dX11_lists_110 : decode cX11_lists 110 = .ok (.iadd, 1) := by decide +kernel
theorem dX11_lists_111 : decode cX11_lists 111 = .ok (.imul, 1) := by decide +kernel
theorem dX11_lists_112 : decode cX11_lists 112 = .ok (.iload 6, 2) := by decide +kernel
theorem dX11_lists_114 : decode cX11_lists 114 = .ok (.iadd, 1) := by decide +kernel
theorem dX11_lists_115 : decode cX11_lists 115 = .ok (.iaload, 1) := by decide +kernel
theorem dX11_lists_116 : decode cX11_lists 116 = .ok (.istore 7, 2) := by decide +kernel
theorem dX11_lists_118 : decode cX11_lists 118 = .ok (.aload_n 0, 1) := by decide +kernel
theorem dX11_lists_119 : decode cX11_lists 119 = .ok (.iload 7, 2) := by decide +kernel
theorem dX11_lists_121 : decode cX11_lists 121 = .ok (.aload_n 0, 1) := by decide +kernel
theorem dX11_lists_122 : decode cX11_lists 122 = .ok (.getfield 25, 3) := by decide +kernel
theorem dX11_lists_125 : decode cX11_lists 125 = .ok (.iload_n 2, 1) := by decide +kernel
theorem dX11_lists_126 : decode cX11_lists 126 = .ok (.baload, 1) := by decide +kernel
theorem dX11_lists_127 : decode cX11_lists 127 = .ok (.ifCond .eq 12, 3) := by decide +kernel
theorem dX11_lists_130 : decode cX11_lists 130 = .ok (.aload_n 0, 1) := by decide +kernel
theorem dX11_lists_131 : decode cX11_lists 131 = .ok (.getfield 84, 3) := by decide +kernel
theorem dX11_lists_134 : decode cX11_lists 134 = .ok (.iload_n 1, 1) := by decide +kernel
theorem dX11_lists_135 : decode cX11_lists 135 = .ok (.iaload, 1) := by decide +kernel
theorem dX11_lists_136 : decode cX11_lists 136 = .ok (.goto 9, 3) := by decide +kernel
theorem dX11_lists_139 : decode cX11_lists 139 = .ok (.aload_n 0, 1) := by decide +kernel
theorem dX11_lists_140 : decode cX11_lists 140 = .ok (.getfield 96, 3) := by decide +kernel
theorem dX11_lists_143 : decode cX11_lists 143 = .ok (.iload_n 1, 1) := by decide +kernel
theorem dX11_lists_144 : decode cX11_lists 144 = .ok (.iaload, 1) := by decide +kernel
theorem dX11_lists_145 : decode cX11_lists 145 = .ok (.aload_n 0, 1) := by decide +kernel
theorem dX11_lists_146 : decode cX11_lists 146 = .ok (.getfield 50, 3) := by decide +kernel
theorem dX11_lists_149 : decode cX11_lists 149 = .ok (.iload 7, 2) := by decide +kernel
theorem dX11_lists_151 : decode cX11_lists 151 = .ok (.iaload, 1) := by decide +kernel
theorem dX11_lists_152 : decode cX11_lists 152 = .ok (.iconst 0, 1) := by decide +kernel
theorem dX11_lists_153 : decode cX11_lists 153 = .ok (.iload 4, 2) := by decide +kernel
theorem dX11_lists_155 : decode cX11_lists 155 = .ok (.invokevirtual 333, 3) := by decide +kernel
theorem dX11_lists_158 : decode cX11_lists 158 = .ok (.ireturn, 1) := by decide +kernel
theorem dX11_lists_159 : decode cX11_lists 159 = .ok (.aload_n 0, 1) := by decide +kernel
theorem dX11_lists_160 : decode cX11_lists 160 = .ok (.getfield 25, 3) := by decide +kernel
theorem dX11_lists_163 : decode cX11_lists 163 = .ok (.iload_n 2, 1) := by decide +kernel
theorem dX11_lists_164 : decode cX11_lists 164 = .ok (.baload, 1) := by decide +kernel
theorem dX11_lists_165 : decode cX11_lists 165 = .ok (.ifCond .ne 13, 3) := by decide +kernel
theorem dX11_lists_168 : decode cX11_lists 168 = .ok (.iload_n 3, 1) := by decide +kernel
theorem dX11_lists_169 : decode cX11_lists 169 = .ok (.ifCond .le 9, 3) := by decide +kernel
theorem dX11_lists_172 : decode cX11_lists 172 = .ok (.aload_n 0, 1) := by decide +kernel
theorem dX11_lists_173 : decode cX11_lists 173 = .ok (.iload 5, 2) := by decide +kernel
theorem dX11_lists_175 : decode cX11_lists 175 = .ok (.invokevirtual 326, 3) := by decide +kernel
theorem dX11_lists_178 : decode cX11_lists 178 = .ok (.aload_n 0, 1) := by decide +kernel
theorem dX11_lists_179 : decode cX11_lists 179 = .ok (.getfield 90, 3) := by decide +kernel
theorem dX11_lists_182 : decode cX11_lists 182 = .ok (.iload_n 1, 1) := by decide +kernel
theorem dX11_lists_183 : decode cX11_lists 183 = .ok (.dup2, 1) := by decide +kernel
theorem dX11_lists_184 : decode cX11_lists 184 = .ok (.iaload, 1) := by decide +kernel
theorem dX11_lists_185 : decode cX11_lists 185 = .ok (.iconst 1, 1) := by decide +kernel
theorem dX11_lists_186 : decode cX11_lists 186 = .ok (.iadd, 1) := by decide +kernel
theorem dX11_lists_187 : decode cX11_lists 187 = .ok (.iastore, 1) := by decide +kernel
theorem dX11_lists_188 : decode cX11_lists 188 = .ok (.aload_n 0, 1) := by decide +kernel
theorem dX11_lists_189 : decode cX11_lists 189 = .ok (.getfield 93, 3) := by decide +kernel
theorem dX11_lists_192 : decode cX11_lists 192 = .ok (.iload_n 1, 1) := by decide +kernel
theorem dX11_lists_193 : decode cX11_lists 193 = .ok (.iconst 0, 1) := by decide +kernel
theorem dX11_lists_194 : decode cX11_lists 194 = .ok (.iastore, 1) := by decide +kernel
theorem dX11_lists_195 : decode cX11_lists 195 = .ok (.iconst 1, 1) := by decide +kernel
theorem dX11_lists_196 : decode cX11_lists 196 = .ok (.ireturn, 1) := by decide +kernel
theorem dX11_write_0 : decode cX11_write 0 = .ok (.aload_n 0, 1) := by decide +kernel
theorem dX11_write_1 : decode cX11_write 1 = .ok (.iconst 0, 1) := by decide +kernel
theorem dX11_write_2 : decode cX11_write 2 = .ok (.iload_n 1, 1) := by decide +kernel
theorem dX11_write_3 : decode cX11_write 3 = .ok (.invokevirtual 247, 3) := by decide +kernel
theorem dX11_write_6 : decode cX11_write 6 = .ok (.ifCond .eq 12, 3) := by decide +kernel
theorem dX11_write_9 : decode cX11_write 9 = .ok (.iload_n 2, 1) := by decide +kernel
theorem dX11_write_10 : decode cX11_write 10 = .ok (.iconst 0, 1) := by decide +kernel
theorem dX11_write_11 : decode cX11_write 11 = .ok (.iconst 3, 1) := by decide +kernel
theorem dX11_write_12 : decode cX11_write 12 = .ok (.invokestatic 174, 3) := by decide +kernel
theorem dX11_write_15 : decode cX11_write 15 = .ok (.ifCond .ne 5, 3) := by decide +kernel
theorem dX11_write_18 : decode cX11_write 18 = .ok (.iconst (-1), 1) := by decide +kernel
theorem dX11_write_19 : decode cX11_write 19 = .ok (.ireturn, 1) := by decide +kernel
theorem dX11_write_20 : decode cX11_write 20 = .ok (.aload_n 0, 1) := by decide +kernel
theorem dX11_write_21 : decode cX11_write 21 = .ok (.iconst 0, 1) := by decide +kernel
theorem dX11_write_22 : decode cX11_write 22 = .ok (.putfield 257, 3) := by decide +kernel
theorem dX11_write_25 : decode cX11_write 25 = .ok (.aload_n 0, 1) := by decide +kernel
theorem dX11_write_26 : decode cX11_write 26 = .ok (.iconst 0, 1) := by decide +kernel
theorem dX11_write_27 : decode cX11_write 27 = .ok (.putfield 278, 3) := by decide +kernel
theorem dX11_write_30 : decode cX11_write 30 = .ok (.aload_n 0, 1) := by decide +kernel
theorem dX11_write_31 : decode cX11_write 31 = .ok (.iconst 0, 1) := by decide +kernel
theorem dX11_write_32 : decode cX11_write 32 = .ok (.putfield 306, 3) := by decide +kernel
theorem dX11_write_35 : decode cX11_write 35 = .ok (.aload_n 0, 1) := by decide +kernel
theorem dX11_write_36 : decode cX11_write 36 = .ok (.iconst 0, 1) := by decide +kernel
theorem dX11_write_37 : decode cX11_write 37 = .ok (.putfield 316, 3) := by decide +kernel
theorem dX11_write_40 : decode cX11_write 40 = .ok (.iconst 0, 1) := by decide +kernel
theorem dX11_write_41 : decode cX11_write 41 = .ok (.istore_n 3, 1) := by decide +kernel
theorem dX11_write_42 : decode cX11_write 42 = .ok (.iload_n 3, 1) := by decide +kernel
theorem dX11_write_43 : decode cX11_write 43 = .ok (.bipush 30, 2) := by decide +kernel
theorem dX11_write_45 : decode cX11_write 45 = .ok (.if_icmp .ge 17, 3) := by decide +kernel
theorem dX11_write_48 : decode cX11_write 48 = .ok (.aload_n 0, 1) := by decide +kernel
theorem dX11_write_49 : decode cX11_write 49 = .ok (.getfield 75, 3) := by decide +kernel
theorem dX11_write_52 : decode cX11_write 52 = .ok (.iload_n 3, 1) := by decide +kernel
theorem dX11_write_53 : decode cX11_write 53 = .ok (.bipush (-2), 2) := by decide +kernel
theorem dX11_write_55 : decode cX11_write 55 = .ok (.iastore, 1) := by decide +kernel
theorem dX11_write_56 : decode cX11_write 56 = .ok (.iinc 3 1, 3) := by decide +kernel
theorem dX11_write_59 : decode cX11_write 59 = .ok (.goto (-17), 3) := by decide +kernel
theorem dX11_write_62 : decode cX11_write 62 = .ok (.aload_n 0, 1) := by decide +kernel
theorem dX11_write_63 : decode cX11_write 63 = .ok (.iload_n 1, 1) := by decide +kernel
theorem dX11_write_64 : decode cX11_write 64 = .ok (.bipush (-2), 2) := by decide +kernel
theorem dX11_write_66 : decode cX11_write 66 = .ok (.aload_n 0, 1) := by decide +kernel
theorem dX11_write_67 : decode cX11_write 67 = .ok (.getfield 50, 3) := by decide +kernel
theorem dX11_write_70 : decode cX11_write 70 = .ok (.iload_n 1, 1) := by decide +kernel
theorem dX11_write_71 : decode cX11_write 71 = .ok (.iaload, 1) := by decide +kernel
theorem dX11_write_72 : decode cX11_write 72 = .ok (.iconst 0, 1) := by decide +kernel
theorem dX11_write_73 : decode cX11_write 73 = .ok (.iload_n 2, 1) := by decide +kernel
theorem dX11_write_74 : decode cX11_write 74 = .ok (.invokevirtual 322, 3) := by decide +kernel
theorem dX11_write_77 : decode cX11_write 77 = .ok (.iconst 0, 1) := by decide +kernel
theorem dX11_write_78 : decode cX11_write 78 = .ok (.istore_n 3, 1) := by decide +kernel
theorem dX11_write_79 : decode cX11_write 79 = .ok (.aload_n 0, 1) := by decide +kernel
theorem dX11_write_80 : decode cX11_write 80 = .ok (.getfield 316, 3) := by decide +kernel
theorem dX11_write_83 : decode cX11_write 83 = .ok (.ifCond .le 34, 3) := by decide +kernel
theorem dX11_write_86 : decode cX11_write 86 = .ok (.iload_n 3, 1) := by decide +kernel
theorem dX11_write_87 : decode cX11_write 87 = .ok (.ifCond .ne 30, 3) := by decide +kernel
theorem dX11_write_90 : decode cX11_write 90 = .ok (.aload_n 0, 1) := by decide +kernel
theorem dX11_write_91 : decode cX11_write 91 = .ok (.getfield 257, 3) := by decide +kernel
theorem dX11_write_94 : decode cX11_write 94 = .ok (.sipush 3000, 3) := by decide +kernel
theorem dX11_write_97 : decode cX11_write 97 = .ok (.if_icmp .gt 20, 3) := by decide +kernel
theorem dX11_write_100 : decode cX11_write 100 = .ok (.aload_n 0, 1) := by decide +kernel
theorem dX11_write_101 : decode cX11_write 101 = .ok (.iload_n 2, 1) := by decide +kernel
theorem dX11_write_102 : decode cX11_write 102 = .ok (.invokevirtual 337, 3) := by decide +kernel
theorem dX11_write_105 : decode cX11_write 105 = .ok (.ifCond .ne 7, 3) := by decide +kernel
theorem dX11_write_108 : decode cX11_write 108 = .ok (.iconst 1, 1) := by decide +kernel
theorem dX11_write_109 : decode cX11_write 109 = .ok (.goto 4, 3) := by decide +kernel
theorem dX11_write_112 : decode cX11_write 112 = .ok (.iconst 0, 1) := by decide +kernel
theorem dX11_write_113 : decode cX11_write 113 = .ok (.istore_n 3, 1) := by decide +kernel
theorem dX11_write_114 : decode cX11_write 114 = .ok (.goto (-35), 3) := by decide +kernel
theorem dX11_write_117 : decode cX11_write 117 = .ok (.aload_n 0, 1) := by decide +kernel
theorem dX11_write_118 : decode cX11_write 118 = .ok (.getfield 257, 3) := by decide +kernel
theorem dX11_write_121 : decode cX11_write 121 = .ok (.sipush 3000, 3) := by decide +kernel
theorem dX11_write_124 : decode cX11_write 124 = .ok (.if_icmp .le 6, 3) := by decide +kernel
theorem dX11_write_127 : decode cX11_write 127 = .ok (.bipush (-4), 2) := by decide +kernel
theorem dX11_write_129 : decode cX11_write 129 = .ok (.ireturn, 1) := by decide +kernel
theorem dX11_write_130 : decode cX11_write 130 = .ok (.iload_n 3, 1) := by decide +kernel
theorem dX11_write_131 : decode cX11_write 131 = .ok (.ifCond .eq 6, 3) := by decide +kernel
theorem dX11_write_134 : decode cX11_write 134 = .ok (.bipush (-3), 2) := by decide +kernel
theorem dX11_write_136 : decode cX11_write 136 = .ok (.ireturn, 1) := by decide +kernel
theorem dX11_write_137 : decode cX11_write 137 = .ok (.aload_n 0, 1) := by decide +kernel
theorem dX11_write_138 : decode cX11_write 138 = .ok (.aload_n 0, 1) := by decide +kernel
theorem dX11_write_139 : decode cX11_write 139 = .ok (.getfield 257, 3) := by decide +kernel
theorem dX11_write_142 : decode cX11_write 142 = .ok (.putfield 244, 3) := by decide +kernel
theorem dX11_write_145 : decode cX11_write 145 = .ok (.iconst 0, 1) := by decide +kernel
theorem dX11_write_146 : decode cX11_write 146 = .ok (.istore 4, 2) := by decide +kernel
theorem dX11_write_148 : decode cX11_write 148 = .ok (.iload 4, 2) := by decide +kernel
theorem dX11_write_150 : decode cX11_write 150 = .ok (.aload_n 0, 1) := by decide +kernel
theorem dX11_write_151 : decode cX11_write 151 = .ok (.getfield 244, 3) := by decide +kernel
theorem dX11_write_154 : decode cX11_write 154 = .ok (.if_icmp .ge 23, 3) := by decide +kernel
theorem dX11_write_157 : decode cX11_write 157 = .ok (.aload_n 0, 1) := by decide +kernel
theorem dX11_write_158 : decode cX11_write 158 = .ok (.getfield 63, 3) := by decide +kernel
theorem dX11_write_161 : decode cX11_write 161 = .ok (.iload 4, 2) := by decide +kernel
theorem dX11_write_163 : decode cX11_write 163 = .ok (.aload_n 0, 1) := by decide +kernel
theorem dX11_write_164 : decode cX11_write 164 = .ok (.getfield 99, 3) := by decide +kernel
theorem dX11_write_167 : decode cX11_write 167 = .ok (.iload 4, 2) := by decide +kernel
theorem dX11_write_169 : decode cX11_write 169 = .ok (.iaload, 1) := by decide +kernel
theorem dX11_write_170 : decode cX11_write 170 = .ok (.iastore, 1) := by decide +kernel
theorem dX11_write_171 : decode cX11_write 171 = .ok (.iinc 4 1, 3) := by decide +kernel
theorem dX11_write_174 : decode cX11_write 174 = .ok (.goto (-26), 3) := by decide +kernel
theorem dX11_write_177 : decode cX11_write 177 = .ok (.aload_n 0, 1) := by decide +kernel
theorem dX11_write_178 : decode cX11_write 178 = .ok (.getfield 244, 3) := by decide +kernel
theorem dX11_write_181 : decode cX11_write 181 = .ok (.ireturn, 1) := by decide +kernel
theorem dX11_sign_0 : decode cX11_sign 0 = .ok (.iload_n 1, 1) := by decide +kernel
theorem dX11_sign_1 : decode cX11_sign 1 = .ok (.iconst 0, 1) := by decide +kernel
theorem dX11_sign_2 : decode cX11_sign 2 = .ok (.aload_n 0, 1) := by decide +kernel
theorem dX11_sign_3 : decode cX11_sign 3 = .ok (.getfield 244, 3) := by decide +kernel
theorem dX11_sign_6 : decode cX11_sign 6 = .ok (.iconst 1, 1) := by decide +kernel
theorem dX11_sign_7 : decode cX11_sign 7 = .ok (.isub, 1) := by decide +kernel
theorem dX11_sign_8 : decode cX11_sign 8 = .ok (.invokestatic 174, 3) := by decide +kernel
theorem dX11_sign_11 : decode cX11_sign 11 = .ok (.ifCond .eq 12, 3) := by decide +kernel
theorem dX11_sign_14 : decode cX11_sign 14 = .ok (.aload_n 0, 1) := by decide +kernel
theorem dX11_sign_15 : decode cX11_sign 15 = .ok (.getfield 63, 3) := by decide +kernel
theorem dX11_sign_18 : decode cX11_sign 18 = .ok (.iload_n 1, 1) := by decide +kernel
theorem dX11_sign_19 : decode cX11_sign 19 = .ok (.iaload, 1) := by decide +kernel
theorem dX11_sign_20 : decode cX11_sign 20 = .ok (.goto 4, 3) := by decide +kernel
theorem dX11_sign_23 : decode cX11_sign 23 = .ok (.iconst (-1), 1) := by decide +kernel
theorem dX11_sign_24 : decode cX11_sign 24 = .ok (.ireturn, 1) := by decide +kernel
theorem dX11_take_0 : decode cX11_take 0 = .ok (.aload_n 0, 1) := by decide +kernel
theorem dX11_take_1 : decode cX11_take 1 = .ok (.aload_n 0, 1) := by decide +kernel
theorem dX11_take_2 : decode cX11_take 2 = .ok (.getfield 244, 3) := by decide +kernel
theorem dX11_take_5 : decode cX11_take 5 = .ok (.putfield 171, 3) := by decide +kernel
theorem dX11_take_8 : decode cX11_take 8 = .ok (.iconst 0, 1) := by decide +kernel
theorem dX11_take_9 : decode cX11_take 9 = .ok (.istore_n 1, 1) := by decide +kernel
theorem dX11_take_10 : decode cX11_take 10 = .ok (.iload_n 1, 1) := by decide +kernel
theorem dX11_take_11 : decode cX11_take 11 = .ok (.aload_n 0, 1) := by decide +kernel
theorem dX11_take_12 : decode cX11_take 12 = .ok (.getfield 244, 3) := by decide +kernel
theorem dX11_take_15 : decode cX11_take 15 = .ok (.if_icmp .ge 21, 3) := by decide +kernel
theorem dX11_take_18 : decode cX11_take 18 = .ok (.aload_n 0, 1) := by decide +kernel
theorem dX11_take_19 : decode cX11_take 19 = .ok (.getfield 7, 3) := by decide +kernel
theorem dX11_take_22 : decode cX11_take 22 = .ok (.iload_n 1, 1) := by decide +kernel
theorem dX11_take_23 : decode cX11_take 23 = .ok (.aload_n 0, 1) := by decide +kernel
theorem dX11_take_24 : decode cX11_take 24 = .ok (.getfield 63, 3) := by decide +kernel
theorem dX11_take_27 : decode cX11_take 27 = .ok (.iload_n 1, 1) := by decide +kernel
theorem dX11_take_28 : decode cX11_take 28 = .ok (.iaload, 1) := by decide +kernel
theorem dX11_take_29 : decode cX11_take 29 = .ok (.iastore, 1) := by decide +kernel
theorem dX11_take_30 : decode cX11_take 30 = .ok (.iinc 1 1, 3) := by decide +kernel
theorem dX11_take_33 : decode cX11_take 33 = .ok (.goto (-23), 3) := by decide +kernel
theorem dX11_take_36 : decode cX11_take 36 = .ok (.aload_n 0, 1) := by decide +kernel
theorem dX11_take_37 : decode cX11_take 37 = .ok (.getfield 244, 3) := by decide +kernel
theorem dX11_take_40 : decode cX11_take 40 = .ok (.ireturn, 1) := by decide +kernel
theorem dX11_forbid_0 : decode cX11_forbid 0 = .ok (.iload_n 1, 1) := by decide +kernel
theorem dX11_forbid_1 : decode cX11_forbid 1 = .ok (.iconst 0, 1) := by decide +kernel
theorem dX11_forbid_2 : decode cX11_forbid 2 = .ok (.aload_n 0, 1) := by decide +kernel
theorem dX11_forbid_3 : decode cX11_forbid 3 = .ok (.getfield 238, 3) := by decide +kernel
theorem dX11_forbid_6 : decode cX11_forbid 6 = .ok (.iconst 1, 1) := by decide +kernel
theorem dX11_forbid_7 : decode cX11_forbid 7 = .ok (.isub, 1) := by decide +kernel
theorem dX11_forbid_8 : decode cX11_forbid 8 = .ok (.invokestatic 174, 3) := by decide +kernel
theorem dX11_forbid_11 : decode cX11_forbid 11 = .ok (.ifCond .ne 5, 3) := by decide +kernel
theorem dX11_forbid_14 : decode cX11_forbid 14 = .ok (.iconst 0, 1) := by decide +kernel
theorem dX11_forbid_15 : decode cX11_forbid 15 = .ok (.ireturn, 1) := by decide +kernel
theorem dX11_forbid_16 : decode cX11_forbid 16 = .ok (.aload_n 0, 1) := by decide +kernel
theorem dX11_forbid_17 : decode cX11_forbid 17 = .ok (.getfield 29, 3) := by decide +kernel
theorem dX11_forbid_20 : decode cX11_forbid 20 = .ok (.iload_n 1, 1) := by decide +kernel
theorem dX11_forbid_21 : decode cX11_forbid 21 = .ok (.baload, 1) := by decide +kernel
theorem dX11_forbid_22 : decode cX11_forbid 22 = .ok (.istore_n 3, 1) := by decide +kernel
theorem dX11_forbid_23 : decode cX11_forbid 23 = .ok (.aload_n 0, 1) := by decide +kernel
theorem dX11_forbid_24 : decode cX11_forbid 24 = .ok (.getfield 29, 3) := by decide +kernel
theorem dX11_forbid_27 : decode cX11_forbid 27 = .ok (.iload_n 1, 1) := by decide +kernel
theorem dX11_forbid_28 : decode cX11_forbid 28 = .ok (.iload_n 2, 1) := by decide +kernel
theorem dX11_forbid_29 : decode cX11_forbid 29 = .ok (.bastore, 1) := by decide +kernel
theorem dX11_forbid_30 : decode cX11_forbid 30 = .ok (.iload_n 3, 1) := by decide +kernel
theorem dX11_forbid_31 : decode cX11_forbid 31 = .ok (.ireturn, 1) := by decide +kernel
theorem dX11_docAt_0 : decode cX11_docAt 0 = .ok (.iload_n 1, 1) := by decide +kernel
theorem dX11_docAt_1 : decode cX11_docAt 1 = .ok (.aload_n 0, 1) := by decide +kernel
theorem dX11_docAt_2 : decode cX11_docAt 2 = .ok (.getfield 340, 3) := by decide +kernel
theorem dX11_docAt_5 : decode cX11_docAt 5 = .ok (.if_icmp .ge 12, 3) := by decide +kernel
theorem dX11_docAt_8 : decode cX11_docAt 8 = .ok (.aload_n 0, 1) := by decide +kernel
theorem dX11_docAt_9 : decode cX11_docAt 9 = .ok (.getfield 102, 3) := by decide +kernel
theorem dX11_docAt_12 : decode cX11_docAt 12 = .ok (.iload_n 1, 1) := by decide +kernel
theorem dX11_docAt_13 : decode cX11_docAt 13 = .ok (.iaload, 1) := by decide +kernel
theorem dX11_docAt_14 : decode cX11_docAt 14 = .ok (.goto 4, 3) := by decide +kernel
theorem dX11_docAt_17 : decode cX11_docAt 17 = .ok (.iconst (-1), 1) := by decide +kernel
theorem dX11_docAt_18 : decode cX11_docAt 18 = .ok (.ireturn, 1) := by decide +kernel
theorem dX11_fail_0 : decode cX11_fail 0 = .ok (.aload_n 0, 1) := by decide +kernel
theorem dX11_fail_1 : decode cX11_fail 1 = .ok (.aload_n 0, 1) := by decide +kernel
theorem dX11_fail_2 : decode cX11_fail 2 = .ok (.getfield 343, 3) := by decide +kernel
theorem dX11_fail_5 : decode cX11_fail 5 = .ok (.bipush (-2), 2) := by decide +kernel
theorem dX11_fail_7 : decode cX11_fail 7 = .ok (.if_icmp .ne 7, 3) := by decide +kernel
theorem dX11_fail_10 : decode cX11_fail 10 = .ok (.iload_n 1, 1) := by decide +kernel
theorem dX11_fail_11 : decode cX11_fail 11 = .ok (.goto 7, 3) := by decide +kernel
theorem dX11_fail_14 : decode cX11_fail 14 = .ok (.aload_n 0, 1) := by decide +kernel
theorem dX11_fail_15 : decode cX11_fail 15 = .ok (.getfield 343, 3) := by decide +kernel
theorem dX11_fail_18 : decode cX11_fail 18 = .ok (.putfield 343, 3) := by decide +kernel
theorem dX11_fail_21 : decode cX11_fail 21 = .ok (.return_, 1) := by decide +kernel
theorem dX11_beginsName_0 : decode cX11_beginsName 0 = .ok (.iload_n 0, 1) := by decide +kernel
theorem dX11_beginsName_1 : decode cX11_beginsName 1 = .ok (.invokestatic 186, 3) := by decide +kernel
theorem dX11_beginsName_4 : decode cX11_beginsName 4 = .ok (.ifCond .ne 9, 3) := by decide +kernel
theorem dX11_beginsName_7 : decode cX11_beginsName 7 = .ok (.iload_n 0, 1) := by decide +kernel
theorem dX11_beginsName_8 : decode cX11_beginsName 8 = .ok (.bipush 95, 2) := by decide +kernel
theorem dX11_beginsName_10 : decode cX11_beginsName 10 = .ok (.if_icmp .ne 7, 3) := by decide +kernel
theorem dX11_beginsName_13 : decode cX11_beginsName 13 = .ok (.iconst 1, 1) := by decide +kernel
theorem dX11_beginsName_14 : decode cX11_beginsName 14 = .ok (.goto 4, 3) := by decide +kernel
theorem dX11_beginsName_17 : decode cX11_beginsName 17 = .ok (.iconst 0, 1) := by decide +kernel
theorem dX11_beginsName_18 : decode cX11_beginsName 18 = .ok (.ireturn, 1) := by decide +kernel
theorem dX11_inName_0 : decode cX11_inName 0 = .ok (.iload_n 0, 1) := by decide +kernel
theorem dX11_inName_1 : decode cX11_inName 1 = .ok (.invokestatic 346, 3) := by decide +kernel
theorem dX11_inName_4 : decode cX11_inName 4 = .ok (.ifCond .ne 22, 3) := by decide +kernel
theorem dX11_inName_7 : decode cX11_inName 7 = .ok (.iload_n 0, 1) := by decide +kernel
theorem dX11_inName_8 : decode cX11_inName 8 = .ok (.invokestatic 189, 3) := by decide +kernel
theorem dX11_inName_11 : decode cX11_inName 11 = .ok (.ifCond .ne 15, 3) := by decide +kernel
theorem dX11_inName_14 : decode cX11_inName 14 = .ok (.iload_n 0, 1) := by decide +kernel
theorem dX11_inName_15 : decode cX11_inName 15 = .ok (.bipush 45, 2) := by decide +kernel
theorem dX11_inName_17 : decode cX11_inName 17 = .ok (.if_icmp .eq 9, 3) := by decide +kernel
theorem dX11_inName_20 : decode cX11_inName 20 = .ok (.iload_n 0, 1) := by decide +kernel
theorem dX11_inName_21 : decode cX11_inName 21 = .ok (.bipush 46, 2) := by decide +kernel
theorem dX11_inName_23 : decode cX11_inName 23 = .ok (.if_icmp .ne 7, 3) := by decide +kernel
theorem dX11_inName_26 : decode cX11_inName 26 = .ok (.iconst 1, 1) := by decide +kernel
theorem dX11_inName_27 : decode cX11_inName 27 = .ok (.goto 4, 3) := by decide +kernel
theorem dX11_inName_30 : decode cX11_inName 30 = .ok (.iconst 0, 1) := by decide +kernel
theorem dX11_inName_31 : decode cX11_inName 31 = .ok (.ireturn, 1) := by decide +kernel
theorem dX11_blanksFrom_0 : decode cX11_blanksFrom 0 = .ok (.iload_n 1, 1) := by decide +kernel
theorem dX11_blanksFrom_1 : decode cX11_blanksFrom 1 = .ok (.istore_n 2, 1) := by decide +kernel
theorem dX11_blanksFrom_2 : decode cX11_blanksFrom 2 = .ok (.aload_n 0, 1) := by decide +kernel
theorem dX11_blanksFrom_3 : decode cX11_blanksFrom 3 = .ok (.iload_n 2, 1) := by decide +kernel
theorem dX11_blanksFrom_4 : decode cX11_blanksFrom 4 = .ok (.invokevirtual 349, 3) := by decide +kernel
theorem dX11_blanksFrom_7 : decode cX11_blanksFrom 7 = .ok (.invokestatic 178, 3) := by decide +kernel
theorem dX11_blanksFrom_10 : decode cX11_blanksFrom 10 = .ok (.ifCond .eq 9, 3) := by decide +kernel
theorem dX11_blanksFrom_13 : decode cX11_blanksFrom 13 = .ok (.iinc 2 1, 3) := by decide +kernel
theorem dX11_blanksFrom_16 : decode cX11_blanksFrom 16 = .ok (.goto (-14), 3) := by decide +kernel
theorem dX11_blanksFrom_19 : decode cX11_blanksFrom 19 = .ok (.iload_n 2, 1) := by decide +kernel
theorem dX11_blanksFrom_20 : decode cX11_blanksFrom 20 = .ok (.ireturn, 1) := by decide +kernel
theorem dX11_nameEnd_0 : decode cX11_nameEnd 0 = .ok (.iload_n 1, 1) := by decide +kernel
theorem dX11_nameEnd_1 : decode cX11_nameEnd 1 = .ok (.istore_n 2, 1) := by decide +kernel
theorem dX11_nameEnd_2 : decode cX11_nameEnd 2 = .ok (.aload_n 0, 1) := by decide +kernel
theorem dX11_nameEnd_3 : decode cX11_nameEnd 3 = .ok (.iload_n 2, 1) := by decide +kernel
theorem dX11_nameEnd_4 : decode cX11_nameEnd 4 = .ok (.invokevirtual 349, 3) := by decide +kernel
theorem dX11_nameEnd_7 : decode cX11_nameEnd 7 = .ok (.invokestatic 352, 3) := by decide +kernel
theorem dX11_nameEnd_10 : decode cX11_nameEnd 10 = .ok (.ifCond .eq 9, 3) := by decide +kernel
theorem dX11_nameEnd_13 : decode cX11_nameEnd 13 = .ok (.iinc 2 1, 3) := by decide +kernel
theorem dX11_nameEnd_16 : decode cX11_nameEnd 16 = .ok (.goto (-14), 3) := by decide +kernel
theorem dX11_nameEnd_19 : decode cX11_nameEnd 19 = .ok (.iload_n 2, 1) := by decide +kernel
theorem dX11_nameEnd_20 : decode cX11_nameEnd 20 = .ok (.ireturn, 1) := by decide +kernel
theorem dX11_keep_0 : decode cX11_keep 0 = .ok (.aload_n 0, 1) := by decide +kernel
theorem dX11_keep_1 : decode cX11_keep 1 = .ok (.getfield 138, 3) := by decide +kernel
theorem dX11_keep_4 : decode cX11_keep 4 = .ok (.aload_n 0, 1) := by decide +kernel
theorem dX11_keep_5 : decode cX11_keep 5 = .ok (.getfield 355, 3) := by decide +kernel
theorem dX11_keep_8 : decode cX11_keep 8 = .ok (.iload_n 1, 1) := by decide +kernel
theorem dX11_keep_9 : decode cX11_keep 9 = .ok (.iastore, 1) := by decide +kernel
theorem dX11_keep_10 : decode cX11_keep 10 = .ok (.aload_n 0, 1) := by decide +kernel
theorem dX11_keep_11 : decode cX11_keep 11 = .ok (.getfield 141, 3) := by decide +kernel
theorem dX11_keep_14 : decode cX11_keep 14 = .ok (.aload_n 0, 1) := by decide +kernel
theorem dX11_keep_15 : decode cX11_keep 15 = .ok (.getfield 355, 3) := by decide +kernel
theorem dX11_keep_18 : decode cX11_keep 18 = .ok (.iload_n 2, 1) := by decide +kernel
theorem dX11_keep_19 : decode cX11_keep 19 = .ok (.iastore, 1) := by decide +kernel
theorem dX11_keep_20 : decode cX11_keep 20 = .ok (.aload_n 0, 1) := by decide +kernel
theorem dX11_keep_21 : decode cX11_keep 21 = .ok (.dup, 1) := by decide +kernel
theorem dX11_keep_22 : decode cX11_keep 22 = .ok (.getfield 355, 3) := by decide +kernel
theorem dX11_keep_25 : decode cX11_keep 25 = .ok (.iconst 1, 1) := by decide +kernel
theorem dX11_keep_26 : decode cX11_keep 26 = .ok (.iadd, 1) := by decide +kernel
theorem dX11_keep_27 : decode cX11_keep 27 = .ok (.putfield 355, 3) := by decide +kernel
theorem dX11_keep_30 : decode cX11_keep 30 = .ok (.return_, 1) := by decide +kernel
theorem dX11_entitySign_0 : decode cX11_entitySign 0 = .ok (.iconst 5, 1) := by decide +kernel
theorem dX11_entitySign_1 : decode cX11_entitySign 1 = .ok (.iload_n 0, 1) := by decide +kernel
theorem dX11_entitySign_2 : decode cX11_entitySign 2 = .ok (.imul, 1) := by decide +kernel
theorem dX11_entitySign_3 : decode cX11_entitySign 3 = .ok (.iload_n 1, 1) := by decide +kernel
theorem dX11_entitySign_4 : decode cX11_entitySign 4 = .ok (.iadd, 1) := by decide +kernel
theorem dX11_entitySign_5 : decode cX11_entitySign 5 = .ok (.tableswitch 175 0 24 #[115, 118, 121, 124, 175, 127, 130, 133, 175, 175, 136, 139, 142, 175, 175, 145, 148, 151, 154, 157, 160, 163, 166, 169, 172], 115) := by decide +kernel
theorem dX11_entitySign_120 : decode cX11_entitySign 120 = .ok (.bipush 97, 2) := by decide +kernel
theorem dX11_entitySign_122 : decode cX11_entitySign 122 = .ok (.ireturn, 1) := by decide +kernel
theorem dX11_entitySign_123 : decode cX11_entitySign 123 = .ok (.bipush 109, 2) := by decide +kernel
theorem dX11_entitySign_125 : decode cX11_entitySign 125 = .ok (.ireturn, 1) := by decide +kernel
theorem dX11_entitySign_126 : decode cX11_entitySign 126 = .ok (.bipush 112, 2) := by decide +kernel
theorem dX11_entitySign_128 : decode cX11_entitySign 128 = .ok (.ireturn, 1) := by decide +kernel
theorem dX11_entitySign_129 : decode cX11_entitySign 129 = .ok (.bipush 59, 2) := by decide +kernel
theorem dX11_entitySign_131 : decode cX11_entitySign 131 = .ok (.ireturn, 1) := by decide +kernel
theorem dX11_entitySign_132 : decode cX11_entitySign 132 = .ok (.bipush 108, 2) := by decide +kernel
theorem dX11_entitySign_134 : decode cX11_entitySign 134 = .ok (.ireturn, 1) := by decide +kernel
theorem dX11_entitySign_135 : decode cX11_entitySign 135 = .ok (.bipush 116, 2) := by decide +kernel
theorem dX11_entitySign_137 : decode cX11_entitySign 137 = .ok (.ireturn, 1) := by decide +kernel
theorem dX11_entitySign_138 : decode cX11_entitySign 138 = .ok (.bipush 59, 2) := by decide +kernel
theorem dX11_entitySign_140 : decode cX11_entitySign 140 = .ok (.ireturn, 1) := by decide +kernel
theorem dX11_entitySign_141 : decode cX11_entitySign 141 = .ok (.bipush 103, 2) := by decide +kernel
theorem dX11_entitySign_143 : decode cX11_entitySign 143 = .ok (.ireturn, 1) := by decide +kernel
theorem dX11_entitySign_144 : decode cX11_entitySign 144 = .ok (.bipush 116, 2) := by decide +kernel
theorem dX11_entitySign_146 : decode cX11_entitySign 146 = .ok (.ireturn, 1) := by decide +kernel
theorem dX11_entitySign_147 : decode cX11_entitySign 147 = .ok (.bipush 59, 2) := by decide +kernel
theorem dX11_entitySign_149 : decode cX11_entitySign 149 = .ok (.ireturn, 1) := by decide +kernel
theorem dX11_entitySign_150 : decode cX11_entitySign 150 = .ok (.bipush 113, 2) := by decide +kernel
theorem dX11_entitySign_152 : decode cX11_entitySign 152 = .ok (.ireturn, 1) := by decide +kernel
theorem dX11_entitySign_153 : decode cX11_entitySign 153 = .ok (.bipush 117, 2) := by decide +kernel
theorem dX11_entitySign_155 : decode cX11_entitySign 155 = .ok (.ireturn, 1) := by decide +kernel
theorem dX11_entitySign_156 : decode cX11_entitySign 156 = .ok (.bipush 111, 2) := by decide +kernel
theorem dX11_entitySign_158 : decode cX11_entitySign 158 = .ok (.ireturn, 1) := by decide +kernel
theorem dX11_entitySign_159 : decode cX11_entitySign 159 = .ok (.bipush 116, 2) := by decide +kernel
theorem dX11_entitySign_161 : decode cX11_entitySign 161 = .ok (.ireturn, 1) := by decide +kernel
theorem dX11_entitySign_162 : decode cX11_entitySign 162 = .ok (.bipush 59, 2) := by decide +kernel
theorem dX11_entitySign_164 : decode cX11_entitySign 164 = .ok (.ireturn, 1) := by decide +kernel
theorem dX11_entitySign_165 : decode cX11_entitySign 165 = .ok (.bipush 97, 2) := by decide +kernel
theorem dX11_entitySign_167 : decode cX11_entitySign 167 = .ok (.ireturn, 1) := by decide +kernel
theorem dX11_entitySign_168 : decode cX11_entitySign 168 = .ok (.bipush 112, 2) := by decide +kernel
theorem dX11_entitySign_170 : decode cX11_entitySign 170 = .ok (.ireturn, 1) := by decide +kernel
theorem dX11_entitySign_171 : decode cX11_entitySign 171 = .ok (.bipush 111, 2) := by decide +kernel
theorem dX11_entitySign_173 : decode cX11_entitySign 173 = .ok (.ireturn, 1) := by decide +kernel
theorem dX11_entitySign_174 : decode cX11_entitySign 174 = .ok (.bipush 115, 2) := by decide +kernel
theorem dX11_entitySign_176 : decode cX11_entitySign 176 = .ok (.ireturn, 1) := by decide +kernel
theorem dX11_entitySign_177 : decode cX11_entitySign 177 = .ok (.bipush 59, 2) := by decide +kernel
theorem dX11_entitySign_179 : decode cX11_entitySign 179 = .ok (.ireturn, 1) := by decide +kernel
theorem dX11_entitySign_180 : decode cX11_entitySign 180 = .ok (.iconst 0, 1) := by decide +kernel
theorem dX11_entitySign_181 : decode cX11_entitySign 181 = .ok (.ireturn, 1) := by decide +kernel
theorem dX11_entity_0 : decode cX11_entity 0 = .ok (.iload_n 0, 1) := by decide +kernel
theorem dX11_entity_1 : decode cX11_entity 1 = .ok (.ifCond .ne 8, 3) := by decide +kernel
theorem dX11_entity_4 : decode cX11_entity 4 = .ok (.bipush 38, 2) := by decide +kernel
theorem dX11_entity_6 : decode cX11_entity 6 = .ok (.goto 35, 3) := by decide +kernel
theorem dX11_entity_9 : decode cX11_entity 9 = .ok (.iload_n 0, 1) := by decide +kernel
theorem dX11_entity_10 : decode cX11_entity 10 = .ok (.iconst 1, 1) := by decide +kernel
theorem dX11_entity_11 : decode cX11_entity 11 = .ok (.if_icmp .ne 8, 3) := by decide +kernel
theorem dX11_entity_14 : decode cX11_entity 14 = .ok (.bipush 60, 2) := by decide +kernel
theorem dX11_entity_16 : decode cX11_entity 16 = .ok (.goto 25, 3) := by decide +kernel
theorem dX11_entity_19 : decode cX11_entity 19 = .ok (.iload_n 0, 1) := by decide +kernel
theorem dX11_entity_20 : decode cX11_entity 20 = .ok (.iconst 2, 1) := by decide +kernel
theorem dX11_entity_21 : decode cX11_entity 21 = .ok (.if_icmp .ne 8, 3) := by decide +kernel
theorem dX11_entity_24 : decode cX11_entity 24 = .ok (.bipush 62, 2) := by decide +kernel
theorem dX11_entity_26 : decode cX11_entity 26 = .ok (.goto 15, 3) := by decide +kernel
theorem dX11_entity_29 : decode cX11_entity 29 = .ok (.iload_n 0, 1) := by decide +kernel
theorem dX11_entity_30 : decode cX11_entity 30 = .ok (.iconst 3, 1) := by decide +kernel
theorem dX11_entity_31 : decode cX11_entity 31 = .ok (.if_icmp .ne 8, 3) := by decide +kernel
theorem dX11_entity_34 : decode cX11_entity 34 = .ok (.bipush 34, 2) := by decide +kernel
theorem dX11_entity_36 : decode cX11_entity 36 = .ok (.goto 5, 3) := by decide +kernel
theorem dX11_entity_39 : decode cX11_entity 39 = .ok (.bipush 39, 2) := by decide +kernel
theorem dX11_entity_41 : decode cX11_entity 41 = .ok (.ireturn, 1) := by decide +kernel
theorem dX11_figure_0 : decode cX11_figure 0 = .ok (.iload_n 0, 1) := by decide +kernel
theorem dX11_figure_1 : decode cX11_figure 1 = .ok (.invokestatic 189, 3) := by decide +kernel
theorem dX11_figure_4 : decode cX11_figure 4 = .ok (.ifCond .eq 10, 3) := by decide +kernel
theorem dX11_figure_7 : decode cX11_figure 7 = .ok (.iload_n 0, 1) := by decide +kernel
theorem dX11_figure_8 : decode cX11_figure 8 = .ok (.bipush 48, 2) := by decide +kernel
theorem dX11_figure_10 : decode cX11_figure 10 = .ok (.isub, 1) := by decide +kernel
theorem dX11_figure_11 : decode cX11_figure 11 = .ok (.goto 57, 3) := by decide +kernel
theorem dX11_figure_14 : decode cX11_figure 14 = .ok (.iload_n 1, 1) := by decide +kernel
theorem dX11_figure_15 : decode cX11_figure 15 = .ok (.ifCond .eq 25, 3) := by decide +kernel
theorem dX11_figure_18 : decode cX11_figure 18 = .ok (.iload_n 0, 1) := by decide +kernel
theorem dX11_figure_19 : decode cX11_figure 19 = .ok (.bipush 97, 2) := by decide +kernel
theorem dX11_figure_21 : decode cX11_figure 21 = .ok (.if_icmp .lt 19, 3) := by decide +kernel
theorem dX11_figure_24 : decode cX11_figure 24 = .ok (.iload_n 0, 1) := by decide +kernel
theorem dX11_figure_25 : decode cX11_figure 25 = .ok (.bipush 102, 2) := by decide +kernel
theorem dX11_figure_27 : decode cX11_figure 27 = .ok (.if_icmp .gt 13, 3) := by decide +kernel
theorem dX11_figure_30 : decode cX11_figure 30 = .ok (.iload_n 0, 1) := by decide +kernel
theorem dX11_figure_31 : decode cX11_figure 31 = .ok (.bipush 97, 2) := by decide +kernel
theorem dX11_figure_33 : decode cX11_figure 33 = .ok (.isub, 1) := by decide +kernel
theorem dX11_figure_34 : decode cX11_figure 34 = .ok (.bipush 10, 2) := by decide +kernel
theorem dX11_figure_36 : decode cX11_figure 36 = .ok (.iadd, 1) := by decide +kernel
theorem dX11_figure_37 : decode cX11_figure 37 = .ok (.goto 31, 3) := by decide +kernel
theorem dX11_figure_40 : decode cX11_figure 40 = .ok (.iload_n 1, 1) := by decide +kernel
theorem dX11_figure_41 : decode cX11_figure 41 = .ok (.ifCond .eq 25, 3) := by decide +kernel
theorem dX11_figure_44 : decode cX11_figure 44 = .ok (.iload_n 0, 1) := by decide +kernel
theorem dX11_figure_45 : decode cX11_figure 45 = .ok (.bipush 65, 2) := by decide +kernel
theorem dX11_figure_47 : decode cX11_figure 47 = .ok (.if_icmp .lt 19, 3) := by decide +kernel
theorem dX11_figure_50 : decode cX11_figure 50 = .ok (.iload_n 0, 1) := by decide +kernel
theorem dX11_figure_51 : decode cX11_figure 51 = .ok (.bipush 70, 2) := by decide +kernel
theorem dX11_figure_53 : decode cX11_figure 53 = .ok (.if_icmp .gt 13, 3) := by decide +kernel
theorem dX11_figure_56 : decode cX11_figure 56 = .ok (.iload_n 0, 1) := by decide +kernel
theorem dX11_figure_57 : decode cX11_figure 57 = .ok (.bipush 65, 2) := by decide +kernel
theorem dX11_figure_59 : decode cX11_figure 59 = .ok (.isub, 1) := by decide +kernel
theorem dX11_figure_60 : decode cX11_figure 60 = .ok (.bipush 10, 2) := by decide +kernel
theorem dX11_figure_62 : decode cX11_figure 62 = .ok (.iadd, 1) := by decide +kernel
theorem dX11_figure_63 : decode cX11_figure 63 = .ok (.goto 5, 3) := by decide +kernel
theorem dX11_figure_66 : decode cX11_figure 66 = .ok (.bipush (-2), 2) := by decide +kernel
theorem dX11_figure_68 : decode cX11_figure 68 = .ok (.ireturn, 1) := by decide +kernel
theorem dX11_reference_0 : decode cX11_reference 0 = .ok (.aload_n 0, 1) := by decide +kernel
theorem dX11_reference_1 : decode cX11_reference 1 = .ok (.iload_n 1, 1) := by decide +kernel
theorem dX11_reference_2 : decode cX11_reference 2 = .ok (.iconst 1, 1) := by decide +kernel
theorem dX11_reference_3 : decode cX11_reference 3 = .ok (.iadd, 1) := by decide +kernel
theorem dX11_reference_4 : decode cX11_reference 4 = .ok (.invokevirtual 349, 3) := by decide +kernel
theorem dX11_reference_7 : decode cX11_reference 7 = .ok (.bipush 35, 2) := by decide +kernel
theorem dX11_reference_9 : decode cX11_reference 9 = .ok (.if_icmp .ne 167, 3) := by decide +kernel
theorem dX11_reference_12 : decode cX11_reference 12 = .ok (.aload_n 0, 1) := by decide +kernel
theorem dX11_reference_13 : decode cX11_reference 13 = .ok (.iload_n 1, 1) := by decide +kernel
theorem dX11_reference_14 : decode cX11_reference 14 = .ok (.iconst 2, 1) := by decide +kernel
theorem dX11_reference_15 : decode cX11_reference 15 = .ok (.iadd, 1) := by decide +kernel
theorem dX11_reference_16 : decode cX11_reference 16 = .ok (.invokevirtual 349, 3) := by decide +kernel
theorem dX11_reference_19 : decode cX11_reference 19 = .ok (.bipush 120, 2) := by decide +kernel
theorem dX11_reference_21 : decode cX11_reference 21 = .ok (.if_icmp .ne 7, 3) := by decide +kernel
theorem dX11_reference_24 : decode cX11_reference 24 = .ok (.iconst 1, 1) := by decide +kernel
theorem dX11_reference_25 : decode cX11_reference 25 = .ok (.goto 4, 3) := by decide +kernel
theorem dX11_reference_28 : decode cX11_reference 28 = .ok (.iconst 0, 1) := by decide +kernel
theorem dX11_reference_29 : decode cX11_reference 29 = .ok (.istore_n 3, 1) := by decide +kernel
theorem dX11_reference_30 : decode cX11_reference 30 = .ok (.iload_n 3, 1) := by decide +kernel
theorem dX11_reference_31 : decode cX11_reference 31 = .ok (.ifCond .eq 9, 3) := by decide +kernel
theorem dX11_reference_34 : decode cX11_reference 34 = .ok (.iload_n 1, 1) := by decide +kernel
theorem dX11_reference_35 : decode cX11_reference 35 = .ok (.iconst 3, 1) := by decide +kernel
theorem dX11_reference_36 : decode cX11_reference 36 = .ok (.iadd, 1) := by decide +kernel
theorem dX11_reference_37 : decode cX11_reference 37 = .ok (.goto 6, 3) := by decide +kernel
theorem dX11_reference_40 : decode cX11_reference 40 = .ok (.iload_n 1, 1) := by decide +kernel
theorem dX11_reference_41 : decode cX11_reference 41 = .ok (.iconst 2, 1) := by decide +kernel
theorem dX11_reference_42 : decode cX11_reference 42 = .ok (.iadd, 1) := by decide +kernel
theorem dX11_reference_43 : decode cX11_reference 43 = .ok (.istore 4, 2) := by decide +kernel
theorem dX11_reference_45 : decode cX11_reference 45 = .ok (.iconst 0, 1) := by decide +kernel
theorem dX11_reference_46 : decode cX11_reference 46 = .ok (.istore 5, 2) := by decide +kernel
theorem dX11_reference_48 : decode cX11_reference 48 = .ok (.iconst 0, 1) := by decide +kernel
theorem dX11_reference_49 : decode cX11_reference 49 = .ok (.istore 6, 2) := by decide +kernel
theorem dX11_reference_51 : decode cX11_reference 51 = .ok (.iload 5, 2) := by decide +kernel
theorem dX11_reference_53 : decode cX11_reference 53 = .ok (.bipush 6, 2) := by decide +kernel
theorem dX11_reference_55 : decode cX11_reference 55 = .ok (.if_icmp .ge 52, 3) := by decide +kernel
theorem dX11_reference_58 : decode cX11_reference 58 = .ok (.aload_n 0, 1) := by decide +kernel
theorem dX11_reference_59 : decode cX11_reference 59 = .ok (.iload 4, 2) := by decide +kernel
theorem dX11_reference_61 : decode cX11_reference 61 = .ok (.invokevirtual 349, 3) := by decide +kernel
theorem dX11_reference_64 : decode cX11_reference 64 = .ok (.iload_n 3, 1) := by decide +kernel
theorem dX11_reference_65 : decode cX11_reference 65 = .ok (.invokestatic 358, 3) := by decide +kernel
theorem dX11_reference_68 : decode cX11_reference 68 = .ok (.ifCond .lt 39, 3) := by decide +kernel
theorem dX11_reference_71 : decode cX11_reference 71 = .ok (.iload 6, 2) := by decide +kernel
theorem dX11_reference_73 : decode cX11_reference 73 = .ok (.iload_n 3, 1) := by decide +kernel
theorem dX11_reference_74 : decode cX11_reference 74 = .ok (.ifCond .eq 8, 3) := by decide +kernel
theorem dX11_reference_77 : decode cX11_reference 77 = .ok (.bipush 16, 2) := by decide +kernel
theorem dX11_reference_79 : decode cX11_reference 79 = .ok (.goto 5, 3) := by decide +kernel
theorem dX11_reference_82 : decode cX11_reference 82 = .ok (.bipush 10, 2) := by decide +kernel
theorem dX11_reference_84 : decode cX11_reference 84 = .ok (.imul, 1) := by decide +kernel
theorem dX11_reference_85 : decode cX11_reference 85 = .ok (.aload_n 0, 1) := by decide +kernel
theorem dX11_reference_86 : decode cX11_reference 86 = .ok (.iload 4, 2) := by decide +kernel
theorem dX11_reference_88 : decode cX11_reference 88 = .ok (.invokevirtual 349, 3) := by decide +kernel
theorem dX11_reference_91 : decode cX11_reference 91 = .ok (.iload_n 3, 1) := by decide +kernel
theorem dX11_reference_92 : decode cX11_reference 92 = .ok (.invokestatic 358, 3) := by decide +kernel
theorem dX11_reference_95 : decode cX11_reference 95 = .ok (.iadd, 1) := by decide +kernel
theorem dX11_reference_96 : decode cX11_reference 96 = .ok (.istore 6, 2) := by decide +kernel
theorem dX11_reference_98 : decode cX11_reference 98 = .ok (.iinc 5 1, 3) := by decide +kernel
theorem dX11_reference_101 : decode cX11_reference 101 = .ok (.iinc 4 1, 3) := by decide +kernel
theorem dX11_reference_104 : decode cX11_reference 104 = .ok (.goto (-53), 3) := by decide +kernel
theorem dX11_reference_107 : decode cX11_reference 107 = .ok (.iload 5, 2) := by decide +kernel
theorem dX11_reference_109 : decode cX11_reference 109 = .ok (.ifCond .eq 47, 3) := by decide +kernel
theorem dX11_reference_112 : decode cX11_reference 112 = .ok (.aload_n 0, 1) := by decide +kernel
theorem dX11_reference_113 : decode cX11_reference 113 = .ok (.iload 4, 2) := by decide +kernel
theorem dX11_reference_115 : decode cX11_reference 115 = .ok (.invokevirtual 349, 3) := by decide +kernel
theorem dX11_reference_118 : decode cX11_reference 118 = .ok (.bipush 59, 2) := by decide +kernel
theorem dX11_reference_120 : decode cX11_reference 120 = .ok (.if_icmp .ne 36, 3) := by decide +kernel
theorem dX11_reference_123 : decode cX11_reference 123 = .ok (.iload 6, 2) := by decide +kernel
theorem dX11_reference_125 : decode cX11_reference 125 = .ok (.bipush 32, 2) := by decide +kernel
theorem dX11_reference_127 : decode cX11_reference 127 = .ok (.bipush 126, 2) := by decide +kernel
theorem dX11_reference_129 : decode cX11_reference 129 = .ok (.invokestatic 174, 3) := by decide +kernel
theorem dX11_reference_132 : decode cX11_reference 132 = .ok (.ifCond .ne 32, 3) := by decide +kernel
theorem dX11_reference_135 : decode cX11_reference 135 = .ok (.iload 6, 2) := by decide +kernel
theorem dX11_reference_137 : decode cX11_reference 137 = .ok (.bipush 9, 2) := by decide +kernel
theorem dX11_reference_139 : decode cX11_reference 139 = .ok (.if_icmp .eq 25, 3) := by decide +kernel
theorem dX11_reference_142 : decode cX11_reference 142 = .ok (.iload 6, 2) := by decide +kernel
theorem dX11_reference_144 : decode cX11_reference 144 = .ok (.bipush 10, 2) := by decide +kernel
theorem dX11_reference_146 : decode cX11_reference 146 = .ok (.if_icmp .eq 18, 3) := by decide +kernel
theorem dX11_reference_149 : decode cX11_reference 149 = .ok (.iload 6, 2) := by decide +kernel
theorem dX11_reference_151 : decode cX11_reference 151 = .ok (.bipush 13, 2) := by decide +kernel
theorem dX11_reference_153 : decode cX11_reference 153 = .ok (.if_icmp .eq 11, 3) := by decide +kernel
theorem dX11_reference_156 : decode cX11_reference 156 = .ok (.aload_n 0, 1) := by decide +kernel
theorem dX11_reference_157 : decode cX11_reference 157 = .ok (.iload_n 1, 1) := by decide +kernel
theorem dX11_reference_158 : decode cX11_reference 158 = .ok (.invokevirtual 362, 3) := by decide +kernel
theorem dX11_reference_161 : decode cX11_reference 161 = .ok (.iload 4, 2) := by decide +kernel
theorem dX11_reference_163 : decode cX11_reference 163 = .ok (.ireturn, 1) := by decide +kernel
theorem dX11_reference_164 : decode cX11_reference 164 = .ok (.aload_n 0, 1) := by decide +kernel
theorem dX11_reference_165 : decode cX11_reference 165 = .ok (.iload 6, 2) := by decide +kernel
theorem dX11_reference_167 : decode cX11_reference 167 = .ok (.iload_n 2, 1) := by decide +kernel
theorem dX11_reference_168 : decode cX11_reference 168 = .ok (.invokevirtual 365, 3) := by decide +kernel
theorem dX11_reference_171 : decode cX11_reference 171 = .ok (.iload 4, 2) := by decide +kernel
theorem dX11_reference_173 : decode cX11_reference 173 = .ok (.iconst 1, 1) := by decide +kernel
theorem dX11_reference_174 : decode cX11_reference 174 = .ok (.iadd, 1) := by decide +kernel
theorem dX11_reference_175 : decode cX11_reference 175 = .ok (.ireturn, 1) := by decide +kernel
theorem dX11_reference_176 : decode cX11_reference 176 = .ok (.iconst 0, 1) := by decide +kernel
theorem dX11_reference_177 : decode cX11_reference 177 = .ok (.istore_n 3, 1) := by decide +kernel
theorem dX11_reference_178 : decode cX11_reference 178 = .ok (.iload_n 3, 1) := by decide +kernel
theorem dX11_reference_179 : decode cX11_reference 179 = .ok (.iconst 5, 1) := by decide +kernel
theorem dX11_reference_180 : decode cX11_reference 180 = .ok (.if_icmp .ge 86, 3) := by decide +kernel
theorem dX11_reference_183 : decode cX11_reference 183 = .ok (.iconst 0, 1) := by decide +kernel
theorem dX11_reference_184 : decode cX11_reference 184 = .ok (.istore 4, 2) := by decide +kernel
theorem dX11_reference_186 : decode cX11_reference 186 = .ok (.iload 4, 2) := by decide +kernel
theorem dX11_reference_188 : decode cX11_reference 188 = .ok (.iconst 5, 1) := by decide +kernel
theorem dX11_reference_189 : decode cX11_reference 189 = .ok (.if_icmp .ge 37, 3) := by decide +kernel
theorem dX11_reference_192 : decode cX11_reference 192 = .ok (.iload_n 3, 1) := by decide +kernel
theorem dX11_reference_193 : decode cX11_reference 193 = .ok (.iload 4, 2) := by decide +kernel
theorem dX11_reference_195 : decode cX11_reference 195 = .ok (.invokestatic 368, 3) := by decide +kernel
theorem dX11_reference_198 : decode cX11_reference 198 = .ok (.ifCond .eq 28, 3) := by decide +kernel
theorem dX11_reference_201 : decode cX11_reference 201 = .ok (.iload_n 3, 1) := by decide +kernel
theorem dX11_reference_202 : decode cX11_reference 202 = .ok (.iload 4, 2) := by decide +kernel
theorem dX11_reference_204 : decode cX11_reference 204 = .ok (.invokestatic 368, 3) := by decide +kernel
theorem dX11_reference_207 : decode cX11_reference 207 = .ok (.aload_n 0, 1) := by decide +kernel
theorem dX11_reference_208 : decode cX11_reference 208 = .ok (.iload_n 1, 1) := by decide +kernel
theorem dX11_reference_209 : decode cX11_reference 209 = .ok (.iconst 1, 1) := by decide +kernel
theorem dX11_reference_210 : decode cX11_reference 210 = .ok (.iadd, 1) := by decide +kernel
theorem dX11_reference_211 : decode cX11_reference 211 = .ok (.iload 4, 2) := by decide +kernel
theorem dX11_reference_213 : decode cX11_reference 213 = .ok (.iadd, 1) := by decide +kernel
theorem dX11_reference_214 : decode cX11_reference 214 = .ok (.invokevirtual 349, 3) := by decide +kernel
theorem dX11_reference_217 : decode cX11_reference 217 = .ok (.if_icmp .ne 9, 3) := by decide +kernel
theorem dX11_reference_220 : decode cX11_reference 220 = .ok (.iinc 4 1, 3) := by decide +kernel
theorem dX11_reference_223 : decode cX11_reference 223 = .ok (.goto (-37), 3) := by decide +kernel
theorem dX11_reference_226 : decode cX11_reference 226 = .ok (.iload 4, 2) := by decide +kernel
theorem dX11_reference_228 : decode cX11_reference 228 = .ok (.ifCond .le 32, 3) := by decide +kernel
theorem dX11_reference_231 : decode cX11_reference 231 = .ok (.iload_n 3, 1) := by decide +kernel
theorem dX11_reference_232 : decode cX11_reference 232 = .ok (.iload 4, 2) := by decide +kernel
theorem dX11_reference_234 : decode cX11_reference 234 = .ok (.iconst 1, 1) := by decide +kernel
theorem dX11_reference_235 : decode cX11_reference 235 = .ok (.isub, 1) := by decide +kernel
theorem dX11_reference_236 : decode cX11_reference 236 = .ok (.invokestatic 368, 3) := by decide +kernel
theorem dX11_reference_239 : decode cX11_reference 239 = .ok (.bipush 59, 2) := by decide +kernel
theorem dX11_reference_241 : decode cX11_reference 241 = .ok (.if_icmp .ne 19, 3) := by decide +kernel
theorem dX11_reference_244 : decode cX11_reference 244 = .ok (.aload_n 0, 1) := by decide +kernel
theorem dX11_reference_245 : decode cX11_reference 245 = .ok (.iload_n 3, 1) := by decide +kernel
theorem dX11_reference_246 : decode cX11_reference 246 = .ok (.invokestatic 371, 3) := by decide +kernel
theorem dX11_reference_249 : decode cX11_reference 249 = .ok (.iload_n 2, 1) := by decide +kernel
theorem dX11_reference_250 : decode cX11_reference 250 = .ok (.invokevirtual 365, 3) := by decide +kernel
theorem dX11_reference_253 : decode cX11_reference 253 = .ok (.iload_n 1, 1) := by decide +kernel
theorem dX11_reference_254 : decode cX11_reference 254 = .ok (.iconst 1, 1) := by decide +kernel
theorem dX11_reference_255 : decode cX11_reference 255 = .ok (.iadd, 1) := by decide +kernel
theorem dX11_reference_256 : decode cX11_reference 256 = .ok (.iload 4, 2) := by decide +kernel
theorem dX11_reference_258 : decode cX11_reference 258 = .ok (.iadd, 1) := by decide +kernel
theorem dX11_reference_259 : decode cX11_reference 259 = .ok (.ireturn, 1) := by decide +kernel
theorem dX11_reference_260 : decode cX11_reference 260 = .ok (.iinc 3 1, 3) := by decide +kernel
theorem dX11_reference_263 : decode cX11_reference 263 = .ok (.goto (-85), 3) := by decide +kernel
theorem dX11_reference_266 : decode cX11_reference 266 = .ok (.aload_n 0, 1) := by decide +kernel
theorem dX11_reference_267 : decode cX11_reference 267 = .ok (.iload_n 1, 1) := by decide +kernel
theorem dX11_reference_268 : decode cX11_reference 268 = .ok (.invokevirtual 362, 3) := by decide +kernel
theorem dX11_reference_271 : decode cX11_reference 271 = .ok (.iload_n 1, 1) := by decide +kernel
theorem dX11_reference_272 : decode cX11_reference 272 = .ok (.ireturn, 1) := by decide +kernel
theorem dX11_sameNames_0 : decode cX11_sameNames 0 = .ok (.iload_n 2, 1) := by decide +kernel
theorem dX11_sameNames_1 : decode cX11_sameNames 1 = .ok (.iload 4, 2) := by decide +kernel
theorem dX11_sameNames_3 : decode cX11_sameNames 3 = .ok (.if_icmp .ne 7, 3) := by decide +kernel
theorem dX11_sameNames_6 : decode cX11_sameNames 6 = .ok (.iconst 1, 1) := by decide +kernel
theorem dX11_sameNames_7 : decode cX11_sameNames 7 = .ok (.goto 4, 3) := by decide +kernel
theorem dX11_sameNames_10 : decode cX11_sameNames 10 = .ok (.iconst 0, 1) := by decide +kernel
theorem dX11_sameNames_11 : decode cX11_sameNames 11 = .ok (.istore 5, 2) := by decide +kernel
theorem dX11_sameNames_13 : decode cX11_sameNames 13 = .ok (.iconst 0, 1) := by decide +kernel
theorem dX11_sameNames_14 : decode cX11_sameNames 14 = .ok (.istore 6, 2) := by decide +kernel
theorem dX11_sameNames_16 : decode cX11_sameNames 16 = .ok (.iload 6, 2) := by decide +kernel
theorem dX11_sameNames_18 : decode cX11_sameNames 18 = .ok (.iload_n 2, 1) := by decide +kernel
theorem dX11_sameNames_19 : decode cX11_sameNames 19 = .ok (.if_icmp .ge 42, 3) := by decide +kernel
theorem dX11_sameNames_22 : decode cX11_sameNames 22 = .ok (.iload 5, 2) := by decide +kernel
theorem dX11_sameNames_24 : decode cX11_sameNames 24 = .ok (.ifCond .eq 37, 3) := by decide +kernel
theorem dX11_sameNames_27 : decode cX11_sameNames 27 = .ok (.aload_n 0, 1) := by decide +kernel
theorem dX11_sameNames_28 : decode cX11_sameNames 28 = .ok (.getfield 102, 3) := by decide +kernel
theorem dX11_sameNames_31 : decode cX11_sameNames 31 = .ok (.iload_n 1, 1) := by decide +kernel
theorem dX11_sameNames_32 : decode cX11_sameNames 32 = .ok (.iload 6, 2) := by decide +kernel
theorem dX11_sameNames_34 : decode cX11_sameNames 34 = .ok (.iadd, 1) := by decide +kernel
theorem dX11_sameNames_35 : decode cX11_sameNames 35 = .ok (.iaload, 1) := by decide +kernel
theorem dX11_sameNames_36 : decode cX11_sameNames 36 = .ok (.aload_n 0, 1) := by decide +kernel
theorem dX11_sameNames_37 : decode cX11_sameNames 37 = .ok (.getfield 102, 3) := by decide +kernel
theorem dX11_sameNames_40 : decode cX11_sameNames 40 = .ok (.iload_n 3, 1) := by decide +kernel
theorem dX11_sameNames_41 : decode cX11_sameNames 41 = .ok (.iload 6, 2) := by decide +kernel
theorem dX11_sameNames_43 : decode cX11_sameNames 43 = .ok (.iadd, 1) := by decide +kernel
theorem dX11_sameNames_44 : decode cX11_sameNames 44 = .ok (.iaload, 1) := by decide +kernel
theorem dX11_sameNames_45 : decode cX11_sameNames 45 = .ok (.if_icmp .ne 7, 3) := by decide +kernel
theorem dX11_sameNames_48 : decode cX11_sameNames 48 = .ok (.iconst 1, 1) := by decide +kernel
theorem dX11_sameNames_49 : decode cX11_sameNames 49 = .ok (.goto 4, 3) := by decide +kernel
theorem dX11_sameNames_52 : decode cX11_sameNames 52 = .ok (.iconst 0, 1) := by decide +kernel
theorem dX11_sameNames_53 : decode cX11_sameNames 53 = .ok (.istore 5, 2) := by decide +kernel
theorem dX11_sameNames_55 : decode cX11_sameNames 55 = .ok (.iinc 6 1, 3) := by decide +kernel
theorem dX11_sameNames_58 : decode cX11_sameNames 58 = .ok (.goto (-42), 3) := by decide +kernel
theorem dX11_sameNames_61 : decode cX11_sameNames 61 = .ok (.iload 5, 2) := by decide +kernel
theorem dX11_sameNames_63 : decode cX11_sameNames 63 = .ok (.ireturn, 1) := by decide +kernel
theorem dX11_attribute_0 : decode cX11_attribute 0 = .ok (.aload_n 0, 1) := by decide +kernel
theorem dX11_attribute_1 : decode cX11_attribute 1 = .ok (.iload_n 1, 1) := by decide +kernel
theorem dX11_attribute_2 : decode cX11_attribute 2 = .ok (.invokevirtual 374, 3) := by decide +kernel
theorem dX11_attribute_5 : decode cX11_attribute 5 = .ok (.istore_n 3, 1) := by decide +kernel
theorem dX11_attribute_6 : decode cX11_attribute 6 = .ok (.aload_n 0, 1) := by decide +kernel
theorem dX11_attribute_7 : decode cX11_attribute 7 = .ok (.getfield 120, 3) := by decide +kernel
theorem dX11_attribute_10 : decode cX11_attribute 10 = .ok (.iload_n 2, 1) := by decide +kernel
theorem dX11_attribute_11 : decode cX11_attribute 11 = .ok (.iaload, 1) := by decide +kernel
theorem dX11_attribute_12 : decode cX11_attribute 12 = .ok (.istore 4, 2) := by decide +kernel
theorem dX11_attribute_14 : decode cX11_attribute 14 = .ok (.iload 4, 2) := by decide +kernel
theorem dX11_attribute_16 : decode cX11_attribute 16 = .ok (.aload_n 0, 1) := by decide +kernel
theorem dX11_attribute_17 : decode cX11_attribute 17 = .ok (.getfield 377, 3) := by decide +kernel
theorem dX11_attribute_20 : decode cX11_attribute 20 = .ok (.if_icmp .ge 39, 3) := by decide +kernel
theorem dX11_attribute_23 : decode cX11_attribute 23 = .ok (.aload_n 0, 1) := by decide +kernel
theorem dX11_attribute_24 : decode cX11_attribute 24 = .ok (.aload_n 0, 1) := by decide +kernel
theorem dX11_attribute_25 : decode cX11_attribute 25 = .ok (.getfield 126, 3) := by decide +kernel
theorem dX11_attribute_28 : decode cX11_attribute 28 = .ok (.iload 4, 2) := by decide +kernel
theorem dX11_attribute_30 : decode cX11_attribute 30 = .ok (.iaload, 1) := by decide +kernel
theorem dX11_attribute_31 : decode cX11_attribute 31 = .ok (.aload_n 0, 1) := by decide +kernel
theorem dX11_attribute_32 : decode cX11_attribute 32 = .ok (.getfield 129, 3) := by decide +kernel
theorem dX11_attribute_35 : decode cX11_attribute 35 = .ok (.iload 4, 2) := by decide +kernel
theorem dX11_attribute_37 : decode cX11_attribute 37 = .ok (.iaload, 1) := by decide +kernel
theorem dX11_attribute_38 : decode cX11_attribute 38 = .ok (.iload_n 1, 1) := by decide +kernel
theorem dX11_attribute_39 : decode cX11_attribute 39 = .ok (.iload_n 3, 1) := by decide +kernel
theorem dX11_attribute_40 : decode cX11_attribute 40 = .ok (.iload_n 1, 1) := by decide +kernel
theorem dX11_attribute_41 : decode cX11_attribute 41 = .ok (.isub, 1) := by decide +kernel
theorem dX11_attribute_42 : decode cX11_attribute 42 = .ok (.invokevirtual 380, 3) := by decide +kernel
theorem dX11_attribute_45 : decode cX11_attribute 45 = .ok (.ifCond .eq 8, 3) := by decide +kernel
theorem dX11_attribute_48 : decode cX11_attribute 48 = .ok (.aload_n 0, 1) := by decide +kernel
theorem dX11_attribute_49 : decode cX11_attribute 49 = .ok (.iload_n 1, 1) := by decide +kernel
theorem dX11_attribute_50 : decode cX11_attribute 50 = .ok (.invokevirtual 362, 3) := by decide +kernel
theorem dX11_attribute_53 : decode cX11_attribute 53 = .ok (.iinc 4 1, 3) := by decide +kernel
theorem dX11_attribute_56 : decode cX11_attribute 56 = .ok (.goto (-42), 3) := by decide +kernel
theorem dX11_attribute_59 : decode cX11_attribute 59 = .ok (.aload_n 0, 1) := by decide +kernel
theorem dX11_attribute_60 : decode cX11_attribute 60 = .ok (.iload_n 3, 1) := by decide +kernel
theorem dX11_attribute_61 : decode cX11_attribute 61 = .ok (.iconst 1, 1) := by decide +kernel
theorem dX11_attribute_62 : decode cX11_attribute 62 = .ok (.iadd, 1) := by decide +kernel
theorem dX11_attribute_63 : decode cX11_attribute 63 = .ok (.invokevirtual 349, 3) := by decide +kernel
theorem dX11_attribute_66 : decode cX11_attribute 66 = .ok (.istore 4, 2) := by decide +kernel
theorem dX11_attribute_68 : decode cX11_attribute 68 = .ok (.aload_n 0, 1) := by decide +kernel
theorem dX11_attribute_69 : decode cX11_attribute 69 = .ok (.getfield 343, 3) := by decide +kernel
theorem dX11_attribute_72 : decode cX11_attribute 72 = .ok (.bipush (-2), 2) := by decide +kernel
theorem dX11_attribute_74 : decode cX11_attribute 74 = .ok (.if_icmp .ne 13, 3) := by decide +kernel
theorem dX11_attribute_77 : decode cX11_attribute 77 = .ok (.aload_n 0, 1) := by decide +kernel
theorem dX11_attribute_78 : decode cX11_attribute 78 = .ok (.iload_n 3, 1) := by decide +kernel
theorem dX11_attribute_79 : decode cX11_attribute 79 = .ok (.invokevirtual 349, 3) := by decide +kernel
theorem dX11_attribute_82 : decode cX11_attribute 82 = .ok (.bipush 61, 2) := by decide +kernel
theorem dX11_attribute_84 : decode cX11_attribute 84 = .ok (.if_icmp .eq 10, 3) := by decide +kernel
theorem dX11_attribute_87 : decode cX11_attribute 87 = .ok (.aload_n 0, 1) := by decide +kernel
theorem dX11_attribute_88 : decode cX11_attribute 88 = .ok (.iload_n 3, 1) := by decide +kernel
theorem dX11_attribute_89 : decode cX11_attribute 89 = .ok (.invokevirtual 362, 3) := by decide +kernel
theorem dX11_attribute_92 : decode cX11_attribute 92 = .ok (.iload_n 3, 1) := by decide +kernel
theorem dX11_attribute_93 : decode cX11_attribute 93 = .ok (.ireturn, 1) := by decide +kernel
theorem dX11_attribute_94 : decode cX11_attribute 94 = .ok (.iload 4, 2) := by decide +kernel
theorem dX11_attribute_96 : decode cX11_attribute 96 = .ok (.bipush 34, 2) := by decide +kernel
theorem dX11_attribute_98 : decode cX11_attribute 98 = .ok (.if_icmp .eq 19, 3) := by decide +kernel
theorem dX11_attribute_101 : decode cX11_attribute 101 = .ok (.iload 4, 2) := by decide +kernel
theorem dX11_attribute_103 : decode cX11_attribute 103 = .ok (.bipush 39, 2) := by decide +kernel
theorem dX11_attribute_105 : decode cX11_attribute 105 = .ok (.if_icmp .eq 12, 3) := by decide +kernel
theorem dX11_attribute_108 : decode cX11_attribute 108 = .ok (.aload_n 0, 1) := by decide +kernel
theorem dX11_attribute_109 : decode cX11_attribute 109 = .ok (.iload_n 3, 1) := by decide +kernel
theorem dX11_attribute_110 : decode cX11_attribute 110 = .ok (.iconst 1, 1) := by decide +kernel
theorem dX11_attribute_111 : decode cX11_attribute 111 = .ok (.iadd, 1) := by decide +kernel
theorem dX11_attribute_112 : decode cX11_attribute 112 = .ok (.invokevirtual 362, 3) := by decide +kernel
theorem dX11_attribute_115 : decode cX11_attribute 115 = .ok (.iload_n 3, 1) := by decide +kernel
theorem dX11_attribute_116 : decode cX11_attribute 116 = .ok (.ireturn, 1) := by decide +kernel
theorem dX11_attribute_117 : decode cX11_attribute 117 = .ok (.aload_n 0, 1) := by decide +kernel
theorem dX11_attribute_118 : decode cX11_attribute 118 = .ok (.getfield 377, 3) := by decide +kernel
theorem dX11_attribute_121 : decode cX11_attribute 121 = .ok (.istore 5, 2) := by decide +kernel
theorem dX11_attribute_123 : decode cX11_attribute 123 = .ok (.aload_n 0, 1) := by decide +kernel
theorem dX11_attribute_124 : decode cX11_attribute 124 = .ok (.getfield 126, 3) := by decide +kernel
theorem dX11_attribute_127 : decode cX11_attribute 127 = .ok (.iload 5, 2) := by decide +kernel
theorem dX11_attribute_129 : decode cX11_attribute 129 = .ok (.iload_n 1, 1) := by decide +kernel
theorem dX11_attribute_130 : decode cX11_attribute 130 = .ok (.iastore, 1) := by decide +kernel
theorem dX11_attribute_131 : decode cX11_attribute 131 = .ok (.aload_n 0, 1) := by decide +kernel
theorem dX11_attribute_132 : decode cX11_attribute 132 = .ok (.getfield 129, 3) := by decide +kernel
theorem dX11_attribute_135 : decode cX11_attribute 135 = .ok (.iload 5, 2) := by decide +kernel
theorem dX11_attribute_137 : decode cX11_attribute 137 = .ok (.iload_n 3, 1) := by decide +kernel
theorem dX11_attribute_138 : decode cX11_attribute 138 = .ok (.iload_n 1, 1) := by decide +kernel
theorem dX11_attribute_139 : decode cX11_attribute 139 = .ok (.isub, 1) := by decide +kernel
theorem dX11_attribute_140 : decode cX11_attribute 140 = .ok (.iastore, 1) := by decide +kernel
theorem dX11_attribute_141 : decode cX11_attribute 141 = .ok (.aload_n 0, 1) := by decide +kernel
theorem dX11_attribute_142 : decode cX11_attribute 142 = .ok (.getfield 132, 3) := by decide +kernel
theorem dX11_attribute_145 : decode cX11_attribute 145 = .ok (.iload 5, 2) := by decide +kernel
theorem dX11_attribute_147 : decode cX11_attribute 147 = .ok (.aload_n 0, 1) := by decide +kernel
theorem dX11_attribute_148 : decode cX11_attribute 148 = .ok (.getfield 355, 3) := by decide +kernel
theorem dX11_attribute_151 : decode cX11_attribute 151 = .ok (.iastore, 1) := by decide +kernel
theorem dX11_attribute_152 : decode cX11_attribute 152 = .ok (.iload_n 3, 1) := by decide +kernel
theorem dX11_attribute_153 : decode cX11_attribute 153 = .ok (.iconst 2, 1) := by decide +kernel
theorem dX11_attribute_154 : decode cX11_attribute 154 = .ok (.iadd, 1) := by decide +kernel
theorem dX11_attribute_155 : decode cX11_attribute 155 = .ok (.istore_n 3, 1) := by decide +kernel
theorem dX11_attribute_156 : decode cX11_attribute 156 = .ok (.aload_n 0, 1) := by decide +kernel
theorem dX11_attribute_157 : decode cX11_attribute 157 = .ok (.getfield 343, 3) := by decide +kernel
theorem dX11_attribute_160 : decode cX11_attribute 160 = .ok (.bipush (-2), 2) := by decide +kernel
theorem dX11_attribute_162 : decode cX11_attribute 162 = .ok (.if_icmp .ne 72, 3) := by decide +kernel
theorem dX11_attribute_165 : decode cX11_attribute 165 = .ok (.aload_n 0, 1) := by decide +kernel
theorem dX11_attribute_166 : decode cX11_attribute 166 = .ok (.iload_n 3, 1) := by decide +kernel
theorem dX11_attribute_167 : decode cX11_attribute 167 = .ok (.invokevirtual 349, 3) := by decide +kernel
theorem dX11_attribute_170 : decode cX11_attribute 170 = .ok (.iload 4, 2) := by decide +kernel
theorem dX11_attribute_172 : decode cX11_attribute 172 = .ok (.if_icmp .eq 62, 3) := by decide +kernel
theorem dX11_attribute_175 : decode cX11_attribute 175 = .ok (.aload_n 0, 1) := by decide +kernel
theorem dX11_attribute_176 : decode cX11_attribute 176 = .ok (.iload_n 3, 1) := by decide +kernel
theorem dX11_attribute_177 : decode cX11_attribute 177 = .ok (.invokevirtual 349, 3) := by decide +kernel
theorem dX11_attribute_180 : decode cX11_attribute 180 = .ok (.istore 6, 2) := by decide +kernel
theorem dX11_attribute_182 : decode cX11_attribute 182 = .ok (.iload 6, 2) := by decide +kernel
theorem dX11_attribute_184 : decode cX11_attribute 184 = .ok (.ifCond .lt 10, 3) := by decide +kernel
theorem dX11_attribute_187 : decode cX11_attribute 187 = .ok (.iload 6, 2) := by decide +kernel
theorem dX11_attribute_189 : decode cX11_attribute 189 = .ok (.bipush 60, 2) := by decide +kernel
theorem dX11_attribute_191 : decode cX11_attribute 191 = .ok (.if_icmp .ne 11, 3) := by decide +kernel
theorem dX11_attribute_194 : decode cX11_attribute 194 = .ok (.aload_n 0, 1) := by decide +kernel
theorem dX11_attribute_195 : decode cX11_attribute 195 = .ok (.iload_n 3, 1) := by decide +kernel
theorem dX11_attribute_196 : decode cX11_attribute 196 = .ok (.invokevirtual 362, 3) := by decide +kernel
theorem dX11_attribute_199 : decode cX11_attribute 199 = .ok (.goto 32, 3) := by decide +kernel
theorem dX11_attribute_202 : decode cX11_attribute 202 = .ok (.iload 6, 2) := by decide +kernel
theorem dX11_attribute_204 : decode cX11_attribute 204 = .ok (.bipush 38, 2) := by decide +kernel
theorem dX11_attribute_206 : decode cX11_attribute 206 = .ok (.if_icmp .ne 14, 3) := by decide +kernel
theorem dX11_attribute_209 : decode cX11_attribute 209 = .ok (.aload_n 0, 1) := by decide +kernel
theorem dX11_attribute_210 : decode cX11_attribute 210 = .ok (.iload_n 3, 1) := by decide +kernel
theorem dX11_attribute_211 : decode cX11_attribute 211 = .ok (.bipush (-2), 2) := by decide +kernel
theorem dX11_attribute_213 : decode cX11_attribute 213 = .ok (.invokevirtual 383, 3) := by decide +kernel
theorem dX11_attribute_216 : decode cX11_attribute 216 = .ok (.istore_n 3, 1) := by decide +kernel
theorem dX11_attribute_217 : decode cX11_attribute 217 = .ok (.goto 14, 3) := by decide +kernel
theorem dX11_attribute_220 : decode cX11_attribute 220 = .ok (.aload_n 0, 1) := by decide +kernel
theorem dX11_attribute_221 : decode cX11_attribute 221 = .ok (.iload 6, 2) := by decide +kernel
theorem dX11_attribute_223 : decode cX11_attribute 223 = .ok (.bipush (-2), 2) := by decide +kernel
theorem dX11_attribute_225 : decode cX11_attribute 225 = .ok (.invokevirtual 365, 3) := by decide +kernel
theorem dX11_attribute_228 : decode cX11_attribute 228 = .ok (.iinc 3 1, 3) := by decide +kernel
theorem dX11_attribute_231 : decode cX11_attribute 231 = .ok (.goto (-75), 3) := by decide +kernel
theorem dX11_attribute_234 : decode cX11_attribute 234 = .ok (.aload_n 0, 1) := by decide +kernel
theorem dX11_attribute_235 : decode cX11_attribute 235 = .ok (.getfield 135, 3) := by decide +kernel
theorem dX11_attribute_238 : decode cX11_attribute 238 = .ok (.iload 5, 2) := by decide +kernel
theorem dX11_attribute_240 : decode cX11_attribute 240 = .ok (.aload_n 0, 1) := by decide +kernel
theorem dX11_attribute_241 : decode cX11_attribute 241 = .ok (.getfield 355, 3) := by decide +kernel
theorem dX11_attribute_244 : decode cX11_attribute 244 = .ok (.aload_n 0, 1) := by decide +kernel
theorem dX11_attribute_245 : decode cX11_attribute 245 = .ok (.getfield 132, 3) := by decide +kernel
theorem dX11_attribute_248 : decode cX11_attribute 248 = .ok (.iload 5, 2) := by decide +kernel
theorem dX11_attribute_250 : decode cX11_attribute 250 = .ok (.iaload, 1) := by decide +kernel
theorem dX11_attribute_251 : decode cX11_attribute 251 = .ok (.isub, 1) := by decide +kernel
theorem dX11_attribute_252 : decode cX11_attribute 252 = .ok (.iastore, 1) := by decide +kernel
theorem dX11_attribute_253 : decode cX11_attribute 253 = .ok (.aload_n 0, 1) := by decide +kernel
theorem dX11_attribute_254 : decode cX11_attribute 254 = .ok (.dup, 1) := by decide +kernel
theorem dX11_attribute_255 : decode cX11_attribute 255 = .ok (.getfield 377, 3) := by decide +kernel
theorem dX11_attribute_258 : decode cX11_attribute 258 = .ok (.iconst 1, 1) := by decide +kernel
theorem dX11_attribute_259 : decode cX11_attribute 259 = .ok (.iadd, 1) := by decide +kernel
theorem dX11_attribute_260 : decode cX11_attribute 260 = .ok (.putfield 377, 3) := by decide +kernel
theorem dX11_attribute_263 : decode cX11_attribute 263 = .ok (.aload_n 0, 1) := by decide +kernel
theorem dX11_attribute_264 : decode cX11_attribute 264 = .ok (.getfield 123, 3) := by decide +kernel
theorem dX11_attribute_267 : decode cX11_attribute 267 = .ok (.iload_n 2, 1) := by decide +kernel
theorem dX11_attribute_268 : decode cX11_attribute 268 = .ok (.dup2, 1) := by decide +kernel
theorem dX11_attribute_269 : decode cX11_attribute 269 = .ok (.iaload, 1) := by decide +kernel
theorem dX11_attribute_270 : decode cX11_attribute 270 = .ok (.iconst 1, 1) := by decide +kernel
theorem dX11_attribute_271 : decode cX11_attribute 271 = .ok (.iadd, 1) := by decide +kernel
theorem dX11_attribute_272 : decode cX11_attribute 272 = .ok (.iastore, 1) := by decide +kernel
theorem dX11_attribute_273 : decode cX11_attribute 273 = .ok (.iload_n 3, 1) := by decide +kernel
theorem dX11_attribute_274 : decode cX11_attribute 274 = .ok (.iconst 1, 1) := by decide +kernel
theorem dX11_attribute_275 : decode cX11_attribute 275 = .ok (.iadd, 1) := by decide +kernel
theorem dX11_attribute_276 : decode cX11_attribute 276 = .ok (.ireturn, 1) := by decide +kernel
theorem dX11_beginTag_0 : decode cX11_beginTag 0 = .ok (.iload_n 1, 1) := by decide +kernel
theorem dX11_beginTag_1 : decode cX11_beginTag 1 = .ok (.iconst 1, 1) := by decide +kernel
theorem dX11_beginTag_2 : decode cX11_beginTag 2 = .ok (.iadd, 1) := by decide +kernel
theorem dX11_beginTag_3 : decode cX11_beginTag 3 = .ok (.istore 4, 2) := by decide +kernel
theorem dX11_beginTag_5 : decode cX11_beginTag 5 = .ok (.aload_n 0, 1) := by decide +kernel
theorem dX11_beginTag_6 : decode cX11_beginTag 6 = .ok (.iload 4, 2) := by decide +kernel
theorem dX11_beginTag_8 : decode cX11_beginTag 8 = .ok (.invokevirtual 349, 3) := by decide +kernel
theorem dX11_beginTag_11 : decode cX11_beginTag 11 = .ok (.invokestatic 346, 3) := by decide +kernel
theorem dX11_beginTag_14 : decode cX11_beginTag 14 = .ok (.ifCond .ne 12, 3) := by decide +kernel
theorem dX11_beginTag_17 : decode cX11_beginTag 17 = .ok (.aload_n 0, 1) := by decide +kernel
theorem dX11_beginTag_18 : decode cX11_beginTag 18 = .ok (.iload 4, 2) := by decide +kernel
theorem dX11_beginTag_20 : decode cX11_beginTag 20 = .ok (.invokevirtual 362, 3) := by decide +kernel
theorem dX11_beginTag_23 : decode cX11_beginTag 23 = .ok (.iload 4, 2) := by decide +kernel
theorem dX11_beginTag_25 : decode cX11_beginTag 25 = .ok (.ireturn, 1) := by decide +kernel
theorem dX11_beginTag_26 : decode cX11_beginTag 26 = .ok (.aload_n 0, 1) := by decide +kernel
theorem dX11_beginTag_27 : decode cX11_beginTag 27 = .ok (.getfield 386, 3) := by decide +kernel
theorem dX11_beginTag_30 : decode cX11_beginTag 30 = .ok (.sipush 200, 3) := by decide +kernel
theorem dX11_beginTag_33 : decode cX11_beginTag 33 = .ok (.if_icmp .eq 9, 3) := by decide +kernel
theorem dX11_beginTag_36 : decode cX11_beginTag 36 = .ok (.iload_n 3, 1) := by decide +kernel
theorem dX11_beginTag_37 : decode cX11_beginTag 37 = .ok (.bipush 40, 2) := by decide +kernel
theorem dX11_beginTag_39 : decode cX11_beginTag 39 = .ok (.if_icmp .ne 11, 3) := by decide +kernel
theorem dX11_beginTag_42 : decode cX11_beginTag 42 = .ok (.aload_n 0, 1) := by decide +kernel
theorem dX11_beginTag_43 : decode cX11_beginTag 43 = .ok (.iload_n 1, 1) := by decide +kernel
theorem dX11_beginTag_44 : decode cX11_beginTag 44 = .ok (.invokevirtual 362, 3) := by decide +kernel
theorem dX11_beginTag_47 : decode cX11_beginTag 47 = .ok (.iload 4, 2) := by decide +kernel
theorem dX11_beginTag_49 : decode cX11_beginTag 49 = .ok (.ireturn, 1) := by decide +kernel
theorem dX11_beginTag_50 : decode cX11_beginTag 50 = .ok (.aload_n 0, 1) := by decide +kernel
theorem dX11_beginTag_51 : decode cX11_beginTag 51 = .ok (.getfield 386, 3) := by decide +kernel
theorem dX11_beginTag_54 : decode cX11_beginTag 54 = .ok (.istore 5, 2) := by decide +kernel
theorem dX11_beginTag_56 : decode cX11_beginTag 56 = .ok (.aload_n 0, 1) := by decide +kernel
theorem dX11_beginTag_57 : decode cX11_beginTag 57 = .ok (.dup, 1) := by decide +kernel
theorem dX11_beginTag_58 : decode cX11_beginTag 58 = .ok (.getfield 386, 3) := by decide +kernel
theorem dX11_beginTag_61 : decode cX11_beginTag 61 = .ok (.iconst 1, 1) := by decide +kernel
theorem dX11_beginTag_62 : decode cX11_beginTag 62 = .ok (.iadd, 1) := by decide +kernel
theorem dX11_beginTag_63 : decode cX11_beginTag 63 = .ok (.putfield 386, 3) := by decide +kernel
theorem dX11_beginTag_66 : decode cX11_beginTag 66 = .ok (.aload_n 0, 1) := by decide +kernel
theorem dX11_beginTag_67 : decode cX11_beginTag 67 = .ok (.getfield 105, 3) := by decide +kernel
theorem dX11_beginTag_70 : decode cX11_beginTag 70 = .ok (.iload 5, 2) := by decide +kernel
theorem dX11_beginTag_72 : decode cX11_beginTag 72 = .ok (.iload_n 1, 1) := by decide +kernel
theorem dX11_beginTag_73 : decode cX11_beginTag 73 = .ok (.iastore, 1) := by decide +kernel
theorem dX11_beginTag_74 : decode cX11_beginTag 74 = .ok (.aload_n 0, 1) := by decide +kernel
theorem dX11_beginTag_75 : decode cX11_beginTag 75 = .ok (.getfield 108, 3) := by decide +kernel
theorem dX11_beginTag_78 : decode cX11_beginTag 78 = .ok (.iload 5, 2) := by decide +kernel
theorem dX11_beginTag_80 : decode cX11_beginTag 80 = .ok (.iload 4, 2) := by decide +kernel
theorem dX11_beginTag_82 : decode cX11_beginTag 82 = .ok (.iastore, 1) := by decide +kernel
theorem dX11_beginTag_83 : decode cX11_beginTag 83 = .ok (.aload_n 0, 1) := by decide +kernel
theorem dX11_beginTag_84 : decode cX11_beginTag 84 = .ok (.iload 4, 2) := by decide +kernel
theorem dX11_beginTag_86 : decode cX11_beginTag 86 = .ok (.invokevirtual 374, 3) := by decide +kernel
theorem dX11_beginTag_89 : decode cX11_beginTag 89 = .ok (.istore 4, 2) := by decide +kernel
theorem dX11_beginTag_91 : decode cX11_beginTag 91 = .ok (.aload_n 0, 1) := by decide +kernel
theorem dX11_beginTag_92 : decode cX11_beginTag 92 = .ok (.getfield 111, 3) := by decide +kernel
theorem dX11_beginTag_95 : decode cX11_beginTag 95 = .ok (.iload 5, 2) := by decide +kernel
theorem dX11_beginTag_97 : decode cX11_beginTag 97 = .ok (.iload 4, 2) := by decide +kernel
theorem dX11_beginTag_99 : decode cX11_beginTag 99 = .ok (.aload_n 0, 1) := by decide +kernel
theorem dX11_beginTag_100 : decode cX11_beginTag 100 = .ok (.getfield 108, 3) := by decide +kernel
theorem dX11_beginTag_103 : decode cX11_beginTag 103 = .ok (.iload 5, 2) := by decide +kernel
theorem dX11_beginTag_105 : decode cX11_beginTag 105 = .ok (.iaload, 1) := by decide +kernel
theorem dX11_beginTag_106 : decode cX11_beginTag 106 = .ok (.isub, 1) := by decide +kernel
theorem dX11_beginTag_107 : decode cX11_beginTag 107 = .ok (.iastore, 1) := by decide +kernel
theorem dX11_beginTag_108 : decode cX11_beginTag 108 = .ok (.aload_n 0, 1) := by decide +kernel
theorem dX11_beginTag_109 : decode cX11_beginTag 109 = .ok (.getfield 114, 3) := by decide +kernel
theorem dX11_beginTag_112 : decode cX11_beginTag 112 = .ok (.iload 5, 2) := by decide +kernel
theorem dX11_beginTag_114 : decode cX11_beginTag 114 = .ok (.iload_n 2, 1) := by decide +kernel
theorem dX11_beginTag_115 : decode cX11_beginTag 115 = .ok (.iastore, 1) := by decide +kernel
theorem dX11_beginTag_116 : decode cX11_beginTag 116 = .ok (.aload_n 0, 1) := by decide +kernel
theorem dX11_beginTag_117 : decode cX11_beginTag 117 = .ok (.getfield 117, 3) := by decide +kernel
theorem dX11_beginTag_120 : decode cX11_beginTag 120 = .ok (.iload 5, 2) := by decide +kernel
theorem dX11_beginTag_122 : decode cX11_beginTag 122 = .ok (.iconst 1, 1) := by decide +kernel
theorem dX11_beginTag_123 : decode cX11_beginTag 123 = .ok (.iastore, 1) := by decide +kernel
theorem dX11_beginTag_124 : decode cX11_beginTag 124 = .ok (.iconst 0, 1) := by decide +kernel
theorem dX11_beginTag_125 : decode cX11_beginTag 125 = .ok (.istore 6, 2) := by decide +kernel
theorem dX11_beginTag_127 : decode cX11_beginTag 127 = .ok (.iload 6, 2) := by decide +kernel
theorem dX11_beginTag_129 : decode cX11_beginTag 129 = .ok (.iload 5, 2) := by decide +kernel
theorem dX11_beginTag_131 : decode cX11_beginTag 131 = .ok (.if_icmp .ge 81, 3) := by decide +kernel
theorem dX11_beginTag_134 : decode cX11_beginTag 134 = .ok (.aload_n 0, 1) := by decide +kernel
theorem dX11_beginTag_135 : decode cX11_beginTag 135 = .ok (.getfield 117, 3) := by decide +kernel
theorem dX11_beginTag_138 : decode cX11_beginTag 138 = .ok (.iload 5, 2) := by decide +kernel
theorem dX11_beginTag_140 : decode cX11_beginTag 140 = .ok (.aload_n 0, 1) := by decide +kernel
theorem dX11_beginTag_141 : decode cX11_beginTag 141 = .ok (.getfield 114, 3) := by decide +kernel
theorem dX11_beginTag_144 : decode cX11_beginTag 144 = .ok (.iload 6, 2) := by decide +kernel
theorem dX11_beginTag_146 : decode cX11_beginTag 146 = .ok (.iaload, 1) := by decide +kernel
theorem dX11_beginTag_147 : decode cX11_beginTag 147 = .ok (.iload_n 2, 1) := by decide +kernel
theorem dX11_beginTag_148 : decode cX11_beginTag 148 = .ok (.if_icmp .ne 50, 3) := by decide +kernel
theorem dX11_beginTag_151 : decode cX11_beginTag 151 = .ok (.aload_n 0, 1) := by decide +kernel
theorem dX11_beginTag_152 : decode cX11_beginTag 152 = .ok (.aload_n 0, 1) := by decide +kernel
theorem dX11_beginTag_153 : decode cX11_beginTag 153 = .ok (.getfield 108, 3) := by decide +kernel
theorem dX11_beginTag_156 : decode cX11_beginTag 156 = .ok (.iload 6, 2) := by decide +kernel
theorem dX11_beginTag_158 : decode cX11_beginTag 158 = .ok (.iaload, 1) := by decide +kernel
theorem dX11_beginTag_159 : decode cX11_beginTag 159 = .ok (.aload_n 0, 1) := by decide +kernel
theorem dX11_beginTag_160 : decode cX11_beginTag 160 = .ok (.getfield 111, 3) := by decide +kernel
theorem dX11_beginTag_163 : decode cX11_beginTag 163 = .ok (.iload 6, 2) := by decide +kernel
theorem dX11_beginTag_165 : decode cX11_beginTag 165 = .ok (.iaload, 1) := by decide +kernel
theorem dX11_beginTag_166 : decode cX11_beginTag 166 = .ok (.aload_n 0, 1) := by decide +kernel
theorem dX11_beginTag_167 : decode cX11_beginTag 167 = .ok (.getfield 108, 3) := by decide +kernel
theorem dX11_beginTag_170 : decode cX11_beginTag 170 = .ok (.iload 5, 2) := by decide +kernel
theorem dX11_beginTag_172 : decode cX11_beginTag 172 = .ok (.iaload, 1) := by decide +kernel
theorem dX11_beginTag_173 : decode cX11_beginTag 173 = .ok (.aload_n 0, 1) := by decide +kernel
theorem dX11_beginTag_174 : decode cX11_beginTag 174 = .ok (.getfield 111, 3) := by decide +kernel
theorem dX11_beginTag_177 : decode cX11_beginTag 177 = .ok (.iload 5, 2) := by decide +kernel
theorem dX11_beginTag_179 : decode cX11_beginTag 179 = .ok (.iaload, 1) := by decide +kernel
theorem dX11_beginTag_180 : decode cX11_beginTag 180 = .ok (.invokevirtual 380, 3) := by decide +kernel
theorem dX11_beginTag_183 : decode cX11_beginTag 183 = .ok (.ifCond .eq 15, 3) := by decide +kernel
theorem dX11_beginTag_186 : decode cX11_beginTag 186 = .ok (.aload_n 0, 1) := by decide +kernel
theorem dX11_beginTag_187 : decode cX11_beginTag 187 = .ok (.getfield 117, 3) := by decide +kernel
theorem dX11_beginTag_190 : decode cX11_beginTag 190 = .ok (.iload 5, 2) := by decide +kernel
theorem dX11_beginTag_192 : decode cX11_beginTag 192 = .ok (.iaload, 1) := by decide +kernel
theorem dX11_beginTag_193 : decode cX11_beginTag 193 = .ok (.iconst 1, 1) := by decide +kernel
theorem dX11_beginTag_194 : decode cX11_beginTag 194 = .ok (.iadd, 1) := by decide +kernel
theorem dX11_beginTag_195 : decode cX11_beginTag 195 = .ok (.goto 10, 3) := by decide +kernel
theorem dX11_beginTag_198 : decode cX11_beginTag 198 = .ok (.aload_n 0, 1) := by decide +kernel
theorem dX11_beginTag_199 : decode cX11_beginTag 199 = .ok (.getfield 117, 3) := by decide +kernel
theorem dX11_beginTag_202 : decode cX11_beginTag 202 = .ok (.iload 5, 2) := by decide +kernel
theorem dX11_beginTag_204 : decode cX11_beginTag 204 = .ok (.iaload, 1) := by decide +kernel
theorem dX11_beginTag_205 : decode cX11_beginTag 205 = .ok (.iastore, 1) := by decide +kernel
theorem dX11_beginTag_206 : decode cX11_beginTag 206 = .ok (.iinc 6 1, 3) := by decide +kernel
theorem dX11_beginTag_209 : decode cX11_beginTag 209 = .ok (.goto (-82), 3) := by decide +kernel
theorem dX11_beginTag_212 : decode cX11_beginTag 212 = .ok (.aload_n 0, 1) := by decide +kernel
theorem dX11_beginTag_213 : decode cX11_beginTag 213 = .ok (.getfield 120, 3) := by decide +kernel
theorem dX11_beginTag_216 : decode cX11_beginTag 216 = .ok (.iload 5, 2) := by decide +kernel
theorem dX11_beginTag_218 : decode cX11_beginTag 218 = .ok (.aload_n 0, 1) := by decide +kernel
theorem dX11_beginTag_219 : decode cX11_beginTag 219 = .ok (.getfield 377, 3) := by decide +kernel
theorem dX11_beginTag_222 : decode cX11_beginTag 222 = .ok (.iastore, 1) := by decide +kernel
theorem dX11_beginTag_223 : decode cX11_beginTag 223 = .ok (.aload_n 0, 1) := by decide +kernel
theorem dX11_beginTag_224 : decode cX11_beginTag 224 = .ok (.getfield 123, 3) := by decide +kernel
theorem dX11_beginTag_227 : decode cX11_beginTag 227 = .ok (.iload 5, 2) := by decide +kernel
theorem dX11_beginTag_229 : decode cX11_beginTag 229 = .ok (.iconst 0, 1) := by decide +kernel
theorem dX11_beginTag_230 : decode cX11_beginTag 230 = .ok (.iastore, 1) := by decide +kernel
theorem dX11_beginTag_231 : decode cX11_beginTag 231 = .ok (.iconst 1, 1) := by decide +kernel
theorem dX11_beginTag_232 : decode cX11_beginTag 232 = .ok (.istore 6, 2) := by decide +kernel
theorem dX11_beginTag_234 : decode cX11_beginTag 234 = .ok (.iload 6, 2) := by decide +kernel
theorem dX11_beginTag_236 : decode cX11_beginTag 236 = .ok (.ifCond .eq 66, 3) := by decide +kernel
theorem dX11_beginTag_239 : decode cX11_beginTag 239 = .ok (.aload_n 0, 1) := by decide +kernel
theorem dX11_beginTag_240 : decode cX11_beginTag 240 = .ok (.getfield 343, 3) := by decide +kernel
theorem dX11_beginTag_243 : decode cX11_beginTag 243 = .ok (.bipush (-2), 2) := by decide +kernel
theorem dX11_beginTag_245 : decode cX11_beginTag 245 = .ok (.if_icmp .ne 57, 3) := by decide +kernel
theorem dX11_beginTag_248 : decode cX11_beginTag 248 = .ok (.aload_n 0, 1) := by decide +kernel
theorem dX11_beginTag_249 : decode cX11_beginTag 249 = .ok (.iload 4, 2) := by decide +kernel
theorem dX11_beginTag_251 : decode cX11_beginTag 251 = .ok (.invokevirtual 389, 3) := by decide +kernel
theorem dX11_beginTag_254 : decode cX11_beginTag 254 = .ok (.istore 7, 2) := by decide +kernel
theorem dX11_beginTag_256 : decode cX11_beginTag 256 = .ok (.aload_n 0, 1) := by decide +kernel
theorem dX11_beginTag_257 : decode cX11_beginTag 257 = .ok (.iload 7, 2) := by decide +kernel
theorem dX11_beginTag_259 : decode cX11_beginTag 259 = .ok (.invokevirtual 349, 3) := by decide +kernel
theorem dX11_beginTag_262 : decode cX11_beginTag 262 = .ok (.istore 8, 2) := by decide +kernel
theorem dX11_beginTag_264 : decode cX11_beginTag 264 = .ok (.iload 7, 2) := by decide +kernel
theorem dX11_beginTag_266 : decode cX11_beginTag 266 = .ok (.iload 4, 2) := by decide +kernel
theorem dX11_beginTag_268 : decode cX11_beginTag 268 = .ok (.if_icmp .le 24, 3) := by decide +kernel
theorem dX11_beginTag_271 : decode cX11_beginTag 271 = .ok (.iload 8, 2) := by decide +kernel
theorem dX11_beginTag_273 : decode cX11_beginTag 273 = .ok (.invokestatic 346, 3) := by decide +kernel
theorem dX11_beginTag_276 : decode cX11_beginTag 276 = .ok (.ifCond .eq 16, 3) := by decide +kernel
theorem dX11_beginTag_279 : decode cX11_beginTag 279 = .ok (.aload_n 0, 1) := by decide +kernel
theorem dX11_beginTag_280 : decode cX11_beginTag 280 = .ok (.iload 7, 2) := by decide +kernel
theorem dX11_beginTag_282 : decode cX11_beginTag 282 = .ok (.iload 5, 2) := by decide +kernel
theorem dX11_beginTag_284 : decode cX11_beginTag 284 = .ok (.invokevirtual 392, 3) := by decide +kernel
theorem dX11_beginTag_287 : decode cX11_beginTag 287 = .ok (.istore 4, 2) := by decide +kernel
theorem dX11_beginTag_289 : decode cX11_beginTag 289 = .ok (.goto 10, 3) := by decide +kernel
theorem dX11_beginTag_292 : decode cX11_beginTag 292 = .ok (.iconst 0, 1) := by decide +kernel
theorem dX11_beginTag_293 : decode cX11_beginTag 293 = .ok (.istore 6, 2) := by decide +kernel
theorem dX11_beginTag_295 : decode cX11_beginTag 295 = .ok (.iload 7, 2) := by decide +kernel
theorem dX11_beginTag_297 : decode cX11_beginTag 297 = .ok (.istore 4, 2) := by decide +kernel
theorem dX11_beginTag_299 : decode cX11_beginTag 299 = .ok (.goto (-65), 3) := by decide +kernel
theorem dX11_beginTag_302 : decode cX11_beginTag 302 = .ok (.aload_n 0, 1) := by decide +kernel
theorem dX11_beginTag_303 : decode cX11_beginTag 303 = .ok (.getfield 343, 3) := by decide +kernel
theorem dX11_beginTag_306 : decode cX11_beginTag 306 = .ok (.bipush (-2), 2) := by decide +kernel
theorem dX11_beginTag_308 : decode cX11_beginTag 308 = .ok (.if_icmp .eq 6, 3) := by decide +kernel
theorem dX11_beginTag_311 : decode cX11_beginTag 311 = .ok (.iload 4, 2) := by decide +kernel
theorem dX11_beginTag_313 : decode cX11_beginTag 313 = .ok (.ireturn, 1) := by decide +kernel
theorem dX11_beginTag_314 : decode cX11_beginTag 314 = .ok (.aload_n 0, 1) := by decide +kernel
theorem dX11_beginTag_315 : decode cX11_beginTag 315 = .ok (.aload_n 0, 1) := by decide +kernel
theorem dX11_beginTag_316 : decode cX11_beginTag 316 = .ok (.iload 4, 2) := by decide +kernel
theorem dX11_beginTag_318 : decode cX11_beginTag 318 = .ok (.invokevirtual 349, 3) := by decide +kernel
theorem dX11_beginTag_321 : decode cX11_beginTag 321 = .ok (.bipush 62, 2) := by decide +kernel
theorem dX11_beginTag_323 : decode cX11_beginTag 323 = .ok (.if_icmp .ne 7, 3) := by decide +kernel
theorem dX11_beginTag_326 : decode cX11_beginTag 326 = .ok (.iconst 1, 1) := by decide +kernel
theorem dX11_beginTag_327 : decode cX11_beginTag 327 = .ok (.goto 4, 3) := by decide +kernel
theorem dX11_beginTag_330 : decode cX11_beginTag 330 = .ok (.iconst 0, 1) := by decide +kernel
theorem dX11_beginTag_331 : decode cX11_beginTag 331 = .ok (.putfield 395, 3) := by decide +kernel
theorem dX11_beginTag_334 : decode cX11_beginTag 334 = .ok (.aload_n 0, 1) := by decide +kernel
theorem dX11_beginTag_335 : decode cX11_beginTag 335 = .ok (.getfield 395, 3) := by decide +kernel
theorem dX11_beginTag_338 : decode cX11_beginTag 338 = .ok (.ifCond .eq 8, 3) := by decide +kernel
theorem dX11_beginTag_341 : decode cX11_beginTag 341 = .ok (.iload 4, 2) := by decide +kernel
theorem dX11_beginTag_343 : decode cX11_beginTag 343 = .ok (.iconst 1, 1) := by decide +kernel
theorem dX11_beginTag_344 : decode cX11_beginTag 344 = .ok (.iadd, 1) := by decide +kernel
theorem dX11_beginTag_345 : decode cX11_beginTag 345 = .ok (.ireturn, 1) := by decide +kernel
theorem dX11_beginTag_346 : decode cX11_beginTag 346 = .ok (.aload_n 0, 1) := by decide +kernel
theorem dX11_beginTag_347 : decode cX11_beginTag 347 = .ok (.iload 4, 2) := by decide +kernel
theorem dX11_beginTag_349 : decode cX11_beginTag 349 = .ok (.invokevirtual 349, 3) := by decide +kernel
theorem dX11_beginTag_352 : decode cX11_beginTag 352 = .ok (.bipush 47, 2) := by decide +kernel
theorem dX11_beginTag_354 : decode cX11_beginTag 354 = .ok (.if_icmp .eq 12, 3) := by decide +kernel
theorem dX11_beginTag_357 : decode cX11_beginTag 357 = .ok (.aload_n 0, 1) := by decide +kernel
theorem dX11_beginTag_358 : decode cX11_beginTag 358 = .ok (.iload 4, 2) := by decide +kernel
theorem dX11_beginTag_360 : decode cX11_beginTag 360 = .ok (.invokevirtual 362, 3) := by decide +kernel
theorem dX11_beginTag_363 : decode cX11_beginTag 363 = .ok (.goto 24, 3) := by decide +kernel
theorem dX11_beginTag_366 : decode cX11_beginTag 366 = .ok (.aload_n 0, 1) := by decide +kernel
theorem dX11_beginTag_367 : decode cX11_beginTag 367 = .ok (.iload 4, 2) := by decide +kernel
theorem dX11_beginTag_369 : decode cX11_beginTag 369 = .ok (.iconst 1, 1) := by decide +kernel
theorem dX11_beginTag_370 : decode cX11_beginTag 370 = .ok (.iadd, 1) := by decide +kernel
theorem dX11_beginTag_371 : decode cX11_beginTag 371 = .ok (.invokevirtual 349, 3) := by decide +kernel
theorem dX11_beginTag_374 : decode cX11_beginTag 374 = .ok (.bipush 62, 2) := by decide +kernel
theorem dX11_beginTag_376 : decode cX11_beginTag 376 = .ok (.if_icmp .eq 11, 3) := by decide +kernel
theorem dX11_beginTag_379 : decode cX11_beginTag 379 = .ok (.aload_n 0, 1) := by decide +kernel
theorem dX11_beginTag_380 : decode cX11_beginTag 380 = .ok (.iload 4, 2) := by decide +kernel
theorem dX11_beginTag_382 : decode cX11_beginTag 382 = .ok (.iconst 1, 1) := by decide +kernel
theorem dX11_beginTag_383 : decode cX11_beginTag 383 = .ok (.iadd, 1) := by decide +kernel
theorem dX11_beginTag_384 : decode cX11_beginTag 384 = .ok (.invokevirtual 362, 3) := by decide +kernel
theorem dX11_beginTag_387 : decode cX11_beginTag 387 = .ok (.iload 4, 2) := by decide +kernel
theorem dX11_beginTag_389 : decode cX11_beginTag 389 = .ok (.iconst 2, 1) := by decide +kernel
theorem dX11_beginTag_390 : decode cX11_beginTag 390 = .ok (.iadd, 1) := by decide +kernel
theorem dX11_beginTag_391 : decode cX11_beginTag 391 = .ok (.ireturn, 1) := by decide +kernel
theorem dX11_endTag_0 : decode cX11_endTag 0 = .ok (.aload_n 0, 1) := by decide +kernel
theorem dX11_endTag_1 : decode cX11_endTag 1 = .ok (.iload_n 1, 1) := by decide +kernel
theorem dX11_endTag_2 : decode cX11_endTag 2 = .ok (.iconst 2, 1) := by decide +kernel
theorem dX11_endTag_3 : decode cX11_endTag 3 = .ok (.iadd, 1) := by decide +kernel
theorem dX11_endTag_4 : decode cX11_endTag 4 = .ok (.invokevirtual 374, 3) := by decide +kernel
theorem dX11_endTag_7 : decode cX11_endTag 7 = .ok (.istore_n 3, 1) := by decide +kernel
theorem dX11_endTag_8 : decode cX11_endTag 8 = .ok (.iload_n 3, 1) := by decide +kernel
theorem dX11_endTag_9 : decode cX11_endTag 9 = .ok (.iload_n 1, 1) := by decide +kernel
theorem dX11_endTag_10 : decode cX11_endTag 10 = .ok (.isub, 1) := by decide +kernel
theorem dX11_endTag_11 : decode cX11_endTag 11 = .ok (.iconst 2, 1) := by decide +kernel
theorem dX11_endTag_12 : decode cX11_endTag 12 = .ok (.isub, 1) := by decide +kernel
theorem dX11_endTag_13 : decode cX11_endTag 13 = .ok (.istore 4, 2) := by decide +kernel
theorem dX11_endTag_15 : decode cX11_endTag 15 = .ok (.aload_n 0, 1) := by decide +kernel
theorem dX11_endTag_16 : decode cX11_endTag 16 = .ok (.aload_n 0, 1) := by decide +kernel
theorem dX11_endTag_17 : decode cX11_endTag 17 = .ok (.getfield 108, 3) := by decide +kernel
theorem dX11_endTag_20 : decode cX11_endTag 20 = .ok (.iload_n 2, 1) := by decide +kernel
theorem dX11_endTag_21 : decode cX11_endTag 21 = .ok (.iaload, 1) := by decide +kernel
theorem dX11_endTag_22 : decode cX11_endTag 22 = .ok (.iload 4, 2) := by decide +kernel
theorem dX11_endTag_24 : decode cX11_endTag 24 = .ok (.aload_n 0, 1) := by decide +kernel
theorem dX11_endTag_25 : decode cX11_endTag 25 = .ok (.getfield 111, 3) := by decide +kernel
theorem dX11_endTag_28 : decode cX11_endTag 28 = .ok (.iload_n 2, 1) := by decide +kernel
theorem dX11_endTag_29 : decode cX11_endTag 29 = .ok (.iaload, 1) := by decide +kernel
theorem dX11_endTag_30 : decode cX11_endTag 30 = .ok (.if_icmp .ge 8, 3) := by decide +kernel
theorem dX11_endTag_33 : decode cX11_endTag 33 = .ok (.iload 4, 2) := by decide +kernel
theorem dX11_endTag_35 : decode cX11_endTag 35 = .ok (.goto 9, 3) := by decide +kernel
theorem dX11_endTag_38 : decode cX11_endTag 38 = .ok (.aload_n 0, 1) := by decide +kernel
theorem dX11_endTag_39 : decode cX11_endTag 39 = .ok (.getfield 111, 3) := by decide +kernel
theorem dX11_endTag_42 : decode cX11_endTag 42 = .ok (.iload_n 2, 1) := by decide +kernel
theorem dX11_endTag_43 : decode cX11_endTag 43 = .ok (.iaload, 1) := by decide +kernel
theorem dX11_endTag_44 : decode cX11_endTag 44 = .ok (.iload_n 1, 1) := by decide +kernel
theorem dX11_endTag_45 : decode cX11_endTag 45 = .ok (.iconst 2, 1) := by decide +kernel
theorem dX11_endTag_46 : decode cX11_endTag 46 = .ok (.iadd, 1) := by decide +kernel
theorem dX11_endTag_47 : decode cX11_endTag 47 = .ok (.iload 4, 2) := by decide +kernel
theorem dX11_endTag_49 : decode cX11_endTag 49 = .ok (.invokevirtual 380, 3) := by decide +kernel
theorem dX11_endTag_52 : decode cX11_endTag 52 = .ok (.istore 5, 2) := by decide +kernel
theorem dX11_endTag_54 : decode cX11_endTag 54 = .ok (.iload 5, 2) := by decide +kernel
theorem dX11_endTag_56 : decode cX11_endTag 56 = .ok (.ifCond .eq 14, 3) := by decide +kernel
theorem dX11_endTag_59 : decode cX11_endTag 59 = .ok (.iload 4, 2) := by decide +kernel
theorem dX11_endTag_61 : decode cX11_endTag 61 = .ok (.aload_n 0, 1) := by decide +kernel
theorem dX11_endTag_62 : decode cX11_endTag 62 = .ok (.getfield 111, 3) := by decide +kernel
theorem dX11_endTag_65 : decode cX11_endTag 65 = .ok (.iload_n 2, 1) := by decide +kernel
theorem dX11_endTag_66 : decode cX11_endTag 66 = .ok (.iaload, 1) := by decide +kernel
theorem dX11_endTag_67 : decode cX11_endTag 67 = .ok (.if_icmp .ge 12, 3) := by decide +kernel
theorem dX11_endTag_70 : decode cX11_endTag 70 = .ok (.aload_n 0, 1) := by decide +kernel
theorem dX11_endTag_71 : decode cX11_endTag 71 = .ok (.iload_n 1, 1) := by decide +kernel
theorem dX11_endTag_72 : decode cX11_endTag 72 = .ok (.iconst 2, 1) := by decide +kernel
theorem dX11_endTag_73 : decode cX11_endTag 73 = .ok (.iadd, 1) := by decide +kernel
theorem dX11_endTag_74 : decode cX11_endTag 74 = .ok (.invokevirtual 362, 3) := by decide +kernel
theorem dX11_endTag_77 : decode cX11_endTag 77 = .ok (.iload_n 3, 1) := by decide +kernel
theorem dX11_endTag_78 : decode cX11_endTag 78 = .ok (.ireturn, 1) := by decide +kernel
theorem dX11_endTag_79 : decode cX11_endTag 79 = .ok (.aload_n 0, 1) := by decide +kernel
theorem dX11_endTag_80 : decode cX11_endTag 80 = .ok (.iload_n 3, 1) := by decide +kernel
theorem dX11_endTag_81 : decode cX11_endTag 81 = .ok (.invokevirtual 389, 3) := by decide +kernel
theorem dX11_endTag_84 : decode cX11_endTag 84 = .ok (.istore_n 3, 1) := by decide +kernel
theorem dX11_endTag_85 : decode cX11_endTag 85 = .ok (.aload_n 0, 1) := by decide +kernel
theorem dX11_endTag_86 : decode cX11_endTag 86 = .ok (.iload_n 3, 1) := by decide +kernel
theorem dX11_endTag_87 : decode cX11_endTag 87 = .ok (.invokevirtual 349, 3) := by decide +kernel
theorem dX11_endTag_90 : decode cX11_endTag 90 = .ok (.bipush 62, 2) := by decide +kernel
theorem dX11_endTag_92 : decode cX11_endTag 92 = .ok (.if_icmp .eq 8, 3) := by decide +kernel
theorem dX11_endTag_95 : decode cX11_endTag 95 = .ok (.aload_n 0, 1) := by decide +kernel
theorem dX11_endTag_96 : decode cX11_endTag 96 = .ok (.iload_n 3, 1) := by decide +kernel
theorem dX11_endTag_97 : decode cX11_endTag 97 = .ok (.invokevirtual 362, 3) := by decide +kernel
theorem dX11_endTag_100 : decode cX11_endTag 100 = .ok (.iload_n 3, 1) := by decide +kernel
theorem dX11_endTag_101 : decode cX11_endTag 101 = .ok (.iconst 1, 1) := by decide +kernel
theorem dX11_endTag_102 : decode cX11_endTag 102 = .ok (.iadd, 1) := by decide +kernel
theorem dX11_endTag_103 : decode cX11_endTag 103 = .ok (.ireturn, 1) := by decide +kernel
theorem dX11_openerSign_0 : decode cX11_openerSign 0 = .ok (.iload_n 0, 1) := by decide +kernel

