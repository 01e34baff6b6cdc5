theorem dX0_init_0 : decode cX0_init 0 = .ok (.aload_n 0, 1) := by decide +kernel
theorem dX0_init_1 : decode cX0_init 1 = .ok (.invokespecial 3, 3) := by decide +kernel
theorem dX0_init_4 : decode cX0_init 4 = .ok (.aload_n 0, 1) := by decide +kernel
theorem dX0_init_5 : decode cX0_init 5 = .ok (.iconst 0, 1) := by decide +kernel
theorem dX0_init_6 : decode cX0_init 6 = .ok (.putfield 9, 3) := by decide +kernel
theorem dX0_init_9 : decode cX0_init 9 = .ok (.aload_n 0, 1) := by decide +kernel
theorem dX0_init_10 : decode cX0_init 10 = .ok (.aload_n 1, 1) := by decide +kernel
theorem dX0_init_11 : decode cX0_init 11 = .ok (.putfield 15, 3) := by decide +kernel
theorem dX0_init_14 : decode cX0_init 14 = .ok (.aload_n 0, 1) := by decide +kernel
theorem dX0_init_15 : decode cX0_init 15 = .ok (.aload_n 2, 1) := by decide +kernel
theorem dX0_init_16 : decode cX0_init 16 = .ok (.putfield 19, 3) := by decide +kernel
theorem dX0_init_19 : decode cX0_init 19 = .ok (.return_, 1) := by decide +kernel
theorem dX0_firstWrong_0 : decode cX0_firstWrong 0 = .ok (.aload_n 0, 1) := by decide +kernel
theorem dX0_firstWrong_1 : decode cX0_firstWrong 1 = .ok (.getfield 19, 3) := by decide +kernel
theorem dX0_firstWrong_4 : decode cX0_firstWrong 4 = .ok (.invokevirtual 23, 3) := by decide +kernel
theorem dX0_firstWrong_7 : decode cX0_firstWrong 7 = .ok (.iconst 1, 1) := by decide +kernel
theorem dX0_firstWrong_8 : decode cX0_firstWrong 8 = .ok (.istore_n 1, 1) := by decide +kernel
theorem dX0_firstWrong_9 : decode cX0_firstWrong 9 = .ok (.iconst 0, 1) := by decide +kernel
theorem dX0_firstWrong_10 : decode cX0_firstWrong 10 = .ok (.istore_n 2, 1) := by decide +kernel
theorem dX0_firstWrong_11 : decode cX0_firstWrong 11 = .ok (.iload_n 2, 1) := by decide +kernel
theorem dX0_firstWrong_12 : decode cX0_firstWrong 12 = .ok (.bipush 6, 2) := by decide +kernel
theorem dX0_firstWrong_14 : decode cX0_firstWrong 14 = .ok (.if_icmp .ge 49, 3) := by decide +kernel
theorem dX0_firstWrong_17 : decode cX0_firstWrong 17 = .ok (.iload_n 1, 1) := by decide +kernel
theorem dX0_firstWrong_18 : decode cX0_firstWrong 18 = .ok (.ifCond .eq 45, 3) := by decide +kernel
theorem dX0_firstWrong_21 : decode cX0_firstWrong 21 = .ok (.aload_n 0, 1) := by decide +kernel
theorem dX0_firstWrong_22 : decode cX0_firstWrong 22 = .ok (.iload_n 2, 1) := by decide +kernel
theorem dX0_firstWrong_23 : decode cX0_firstWrong 23 = .ok (.invokevirtual 28, 3) := by decide +kernel
theorem dX0_firstWrong_26 : decode cX0_firstWrong 26 = .ok (.ifCond .ne 8, 3) := by decide +kernel
theorem dX0_firstWrong_29 : decode cX0_firstWrong 29 = .ok (.aload_n 0, 1) := by decide +kernel
theorem dX0_firstWrong_30 : decode cX0_firstWrong 30 = .ok (.getfield 9, 3) := by decide +kernel
theorem dX0_firstWrong_33 : decode cX0_firstWrong 33 = .ok (.ireturn, 1) := by decide +kernel
theorem dX0_firstWrong_34 : decode cX0_firstWrong 34 = .ok (.iload_n 2, 1) := by decide +kernel
theorem dX0_firstWrong_35 : decode cX0_firstWrong 35 = .ok (.iconst 1, 1) := by decide +kernel
theorem dX0_firstWrong_36 : decode cX0_firstWrong 36 = .ok (.iadd, 1) := by decide +kernel
theorem dX0_firstWrong_37 : decode cX0_firstWrong 37 = .ok (.bipush 6, 2) := by decide +kernel
theorem dX0_firstWrong_39 : decode cX0_firstWrong 39 = .ok (.if_icmp .ge 16, 3) := by decide +kernel
theorem dX0_firstWrong_42 : decode cX0_firstWrong 42 = .ok (.aload_n 0, 1) := by decide +kernel
theorem dX0_firstWrong_43 : decode cX0_firstWrong 43 = .ok (.bipush 59, 2) := by decide +kernel
theorem dX0_firstWrong_45 : decode cX0_firstWrong 45 = .ok (.invokevirtual 32, 3) := by decide +kernel
theorem dX0_firstWrong_48 : decode cX0_firstWrong 48 = .ok (.ifCond .eq 7, 3) := by decide +kernel
theorem dX0_firstWrong_51 : decode cX0_firstWrong 51 = .ok (.iconst 1, 1) := by decide +kernel
theorem dX0_firstWrong_52 : decode cX0_firstWrong 52 = .ok (.goto 4, 3) := by decide +kernel
theorem dX0_firstWrong_55 : decode cX0_firstWrong 55 = .ok (.iconst 0, 1) := by decide +kernel
theorem dX0_firstWrong_56 : decode cX0_firstWrong 56 = .ok (.istore_n 1, 1) := by decide +kernel
theorem dX0_firstWrong_57 : decode cX0_firstWrong 57 = .ok (.iinc 2 1, 3) := by decide +kernel
theorem dX0_firstWrong_60 : decode cX0_firstWrong 60 = .ok (.goto (-49), 3) := by decide +kernel
theorem dX0_firstWrong_63 : decode cX0_firstWrong 63 = .ok (.aload_n 0, 1) := by decide +kernel
theorem dX0_firstWrong_64 : decode cX0_firstWrong 64 = .ok (.getfield 9, 3) := by decide +kernel
theorem dX0_firstWrong_67 : decode cX0_firstWrong 67 = .ok (.aload_n 0, 1) := by decide +kernel
theorem dX0_firstWrong_68 : decode cX0_firstWrong 68 = .ok (.getfield 15, 3) := by decide +kernel
theorem dX0_firstWrong_71 : decode cX0_firstWrong 71 = .ok (.invokevirtual 35, 3) := by decide +kernel
theorem dX0_firstWrong_74 : decode cX0_firstWrong 74 = .ok (.if_icmp .ge 8, 3) := by decide +kernel
theorem dX0_firstWrong_77 : decode cX0_firstWrong 77 = .ok (.aload_n 0, 1) := by decide +kernel
theorem dX0_firstWrong_78 : decode cX0_firstWrong 78 = .ok (.getfield 9, 3) := by decide +kernel
theorem dX0_firstWrong_81 : decode cX0_firstWrong 81 = .ok (.ireturn, 1) := by decide +kernel
theorem dX0_firstWrong_82 : decode cX0_firstWrong 82 = .ok (.aload_n 0, 1) := by decide +kernel
theorem dX0_firstWrong_83 : decode cX0_firstWrong 83 = .ok (.getfield 19, 3) := by decide +kernel
theorem dX0_firstWrong_86 : decode cX0_firstWrong 86 = .ok (.invokevirtual 41, 3) := by decide +kernel
theorem dX0_firstWrong_89 : decode cX0_firstWrong 89 = .ok (.ifCond .eq 7, 3) := by decide +kernel
theorem dX0_firstWrong_92 : decode cX0_firstWrong 92 = .ok (.iconst (-1), 1) := by decide +kernel
theorem dX0_firstWrong_93 : decode cX0_firstWrong 93 = .ok (.goto 7, 3) := by decide +kernel
theorem dX0_firstWrong_96 : decode cX0_firstWrong 96 = .ok (.aload_n 0, 1) := by decide +kernel
theorem dX0_firstWrong_97 : decode cX0_firstWrong 97 = .ok (.getfield 9, 3) := by decide +kernel
theorem dX0_firstWrong_100 : decode cX0_firstWrong 100 = .ok (.ireturn, 1) := by decide +kernel
theorem dX0_isClassRight_0 : decode cX0_isClassRight 0 = .ok (.aload_n 0, 1) := by decide +kernel
theorem dX0_isClassRight_1 : decode cX0_isClassRight 1 = .ok (.getfield 19, 3) := by decide +kernel
theorem dX0_isClassRight_4 : decode cX0_isClassRight 4 = .ok (.invokevirtual 45, 3) := by decide +kernel
theorem dX0_isClassRight_7 : decode cX0_isClassRight 7 = .ok (.aload_n 0, 1) := by decide +kernel
theorem dX0_isClassRight_8 : decode cX0_isClassRight 8 = .ok (.iload_n 1, 1) := by decide +kernel
theorem dX0_isClassRight_9 : decode cX0_isClassRight 9 = .ok (.invokevirtual 48, 3) := by decide +kernel
theorem dX0_isClassRight_12 : decode cX0_isClassRight 12 = .ok (.ifCond .eq 12, 3) := by decide +kernel
theorem dX0_isClassRight_15 : decode cX0_isClassRight 15 = .ok (.aload_n 0, 1) := by decide +kernel
theorem dX0_isClassRight_16 : decode cX0_isClassRight 16 = .ok (.bipush 40, 2) := by decide +kernel
theorem dX0_isClassRight_18 : decode cX0_isClassRight 18 = .ok (.invokevirtual 32, 3) := by decide +kernel
theorem dX0_isClassRight_21 : decode cX0_isClassRight 21 = .ok (.ifCond .ne 5, 3) := by decide +kernel
theorem dX0_isClassRight_24 : decode cX0_isClassRight 24 = .ok (.iconst 0, 1) := by decide +kernel
theorem dX0_isClassRight_25 : decode cX0_isClassRight 25 = .ok (.ireturn, 1) := by decide +kernel
theorem dX0_isClassRight_26 : decode cX0_isClassRight 26 = .ok (.aload_n 0, 1) := by decide +kernel
theorem dX0_isClassRight_27 : decode cX0_isClassRight 27 = .ok (.bipush 41, 2) := by decide +kernel
theorem dX0_isClassRight_29 : decode cX0_isClassRight 29 = .ok (.invokevirtual 32, 3) := by decide +kernel
theorem dX0_isClassRight_32 : decode cX0_isClassRight 32 = .ok (.ifCond .eq 5, 3) := by decide +kernel
theorem dX0_isClassRight_35 : decode cX0_isClassRight 35 = .ok (.iconst 1, 1) := by decide +kernel
theorem dX0_isClassRight_36 : decode cX0_isClassRight 36 = .ok (.ireturn, 1) := by decide +kernel
theorem dX0_isClassRight_37 : decode cX0_isClassRight 37 = .ok (.iconst 1, 1) := by decide +kernel
theorem dX0_isClassRight_38 : decode cX0_isClassRight 38 = .ok (.istore_n 2, 1) := by decide +kernel
theorem dX0_isClassRight_39 : decode cX0_isClassRight 39 = .ok (.iconst 0, 1) := by decide +kernel
theorem dX0_isClassRight_40 : decode cX0_isClassRight 40 = .ok (.istore_n 3, 1) := by decide +kernel
theorem dX0_isClassRight_41 : decode cX0_isClassRight 41 = .ok (.iload_n 3, 1) := by decide +kernel
theorem dX0_isClassRight_42 : decode cX0_isClassRight 42 = .ok (.iconst 4, 1) := by decide +kernel
theorem dX0_isClassRight_43 : decode cX0_isClassRight 43 = .ok (.if_icmp .ge 46, 3) := by decide +kernel
theorem dX0_isClassRight_46 : decode cX0_isClassRight 46 = .ok (.iload_n 2, 1) := by decide +kernel
theorem dX0_isClassRight_47 : decode cX0_isClassRight 47 = .ok (.ifCond .eq 42, 3) := by decide +kernel
theorem dX0_isClassRight_50 : decode cX0_isClassRight 50 = .ok (.aload_n 0, 1) := by decide +kernel
theorem dX0_isClassRight_51 : decode cX0_isClassRight 51 = .ok (.iload_n 1, 1) := by decide +kernel
theorem dX0_isClassRight_52 : decode cX0_isClassRight 52 = .ok (.iload_n 3, 1) := by decide +kernel
theorem dX0_isClassRight_53 : decode cX0_isClassRight 53 = .ok (.invokevirtual 51, 3) := by decide +kernel
theorem dX0_isClassRight_56 : decode cX0_isClassRight 56 = .ok (.ifCond .ne 5, 3) := by decide +kernel
theorem dX0_isClassRight_59 : decode cX0_isClassRight 59 = .ok (.iconst 0, 1) := by decide +kernel
theorem dX0_isClassRight_60 : decode cX0_isClassRight 60 = .ok (.ireturn, 1) := by decide +kernel
theorem dX0_isClassRight_61 : decode cX0_isClassRight 61 = .ok (.iload_n 3, 1) := by decide +kernel
theorem dX0_isClassRight_62 : decode cX0_isClassRight 62 = .ok (.iconst 1, 1) := by decide +kernel
theorem dX0_isClassRight_63 : decode cX0_isClassRight 63 = .ok (.iadd, 1) := by decide +kernel
theorem dX0_isClassRight_64 : decode cX0_isClassRight 64 = .ok (.iconst 4, 1) := by decide +kernel
theorem dX0_isClassRight_65 : decode cX0_isClassRight 65 = .ok (.if_icmp .ge 16, 3) := by decide +kernel
theorem dX0_isClassRight_68 : decode cX0_isClassRight 68 = .ok (.aload_n 0, 1) := by decide +kernel
theorem dX0_isClassRight_69 : decode cX0_isClassRight 69 = .ok (.bipush 44, 2) := by decide +kernel
theorem dX0_isClassRight_71 : decode cX0_isClassRight 71 = .ok (.invokevirtual 32, 3) := by decide +kernel
theorem dX0_isClassRight_74 : decode cX0_isClassRight 74 = .ok (.ifCond .eq 7, 3) := by decide +kernel
theorem dX0_isClassRight_77 : decode cX0_isClassRight 77 = .ok (.iconst 1, 1) := by decide +kernel
theorem dX0_isClassRight_78 : decode cX0_isClassRight 78 = .ok (.goto 4, 3) := by decide +kernel
theorem dX0_isClassRight_81 : decode cX0_isClassRight 81 = .ok (.iconst 0, 1) := by decide +kernel
theorem dX0_isClassRight_82 : decode cX0_isClassRight 82 = .ok (.istore_n 2, 1) := by decide +kernel
theorem dX0_isClassRight_83 : decode cX0_isClassRight 83 = .ok (.iinc 3 1, 3) := by decide +kernel
theorem dX0_isClassRight_86 : decode cX0_isClassRight 86 = .ok (.goto (-45), 3) := by decide +kernel
theorem dX0_isClassRight_89 : decode cX0_isClassRight 89 = .ok (.aload_n 0, 1) := by decide +kernel
theorem dX0_isClassRight_90 : decode cX0_isClassRight 90 = .ok (.bipush 41, 2) := by decide +kernel
theorem dX0_isClassRight_92 : decode cX0_isClassRight 92 = .ok (.invokevirtual 32, 3) := by decide +kernel
theorem dX0_isClassRight_95 : decode cX0_isClassRight 95 = .ok (.ireturn, 1) := by decide +kernel
theorem dX0_isFieldRight_0 : decode cX0_isFieldRight 0 = .ok (.aload_n 0, 1) := by decide +kernel
theorem dX0_isFieldRight_1 : decode cX0_isFieldRight 1 = .ok (.getfield 19, 3) := by decide +kernel
theorem dX0_isFieldRight_4 : decode cX0_isFieldRight 4 = .ok (.invokevirtual 55, 3) := by decide +kernel
theorem dX0_isFieldRight_7 : decode cX0_isFieldRight 7 = .ok (.aload_n 0, 1) := by decide +kernel
theorem dX0_isFieldRight_8 : decode cX0_isFieldRight 8 = .ok (.iload_n 1, 1) := by decide +kernel
theorem dX0_isFieldRight_9 : decode cX0_isFieldRight 9 = .ok (.iload_n 2, 1) := by decide +kernel
theorem dX0_isFieldRight_10 : decode cX0_isFieldRight 10 = .ok (.invokestatic 58, 3) := by decide +kernel
theorem dX0_isFieldRight_13 : decode cX0_isFieldRight 13 = .ok (.invokevirtual 48, 3) := by decide +kernel
theorem dX0_isFieldRight_16 : decode cX0_isFieldRight 16 = .ok (.ifCond .eq 12, 3) := by decide +kernel
theorem dX0_isFieldRight_19 : decode cX0_isFieldRight 19 = .ok (.aload_n 0, 1) := by decide +kernel
theorem dX0_isFieldRight_20 : decode cX0_isFieldRight 20 = .ok (.bipush 58, 2) := by decide +kernel
theorem dX0_isFieldRight_22 : decode cX0_isFieldRight 22 = .ok (.invokevirtual 32, 3) := by decide +kernel
theorem dX0_isFieldRight_25 : decode cX0_isFieldRight 25 = .ok (.ifCond .ne 5, 3) := by decide +kernel
theorem dX0_isFieldRight_28 : decode cX0_isFieldRight 28 = .ok (.iconst 0, 1) := by decide +kernel
theorem dX0_isFieldRight_29 : decode cX0_isFieldRight 29 = .ok (.ireturn, 1) := by decide +kernel
theorem dX0_isFieldRight_30 : decode cX0_isFieldRight 30 = .ok (.aload_n 0, 1) := by decide +kernel
theorem dX0_isFieldRight_31 : decode cX0_isFieldRight 31 = .ok (.getfield 15, 3) := by decide +kernel
theorem dX0_isFieldRight_34 : decode cX0_isFieldRight 34 = .ok (.aload_n 0, 1) := by decide +kernel
theorem dX0_isFieldRight_35 : decode cX0_isFieldRight 35 = .ok (.getfield 9, 3) := by decide +kernel
theorem dX0_isFieldRight_38 : decode cX0_isFieldRight 38 = .ok (.invokevirtual 62, 3) := by decide +kernel
theorem dX0_isFieldRight_41 : decode cX0_isFieldRight 41 = .ok (.invokestatic 66, 3) := by decide +kernel
theorem dX0_isFieldRight_44 : decode cX0_isFieldRight 44 = .ok (.istore_n 3, 1) := by decide +kernel
theorem dX0_isFieldRight_45 : decode cX0_isFieldRight 45 = .ok (.iload_n 3, 1) := by decide +kernel
theorem dX0_isFieldRight_46 : decode cX0_isFieldRight 46 = .ok (.ifCond .ne 5, 3) := by decide +kernel
theorem dX0_isFieldRight_49 : decode cX0_isFieldRight 49 = .ok (.iconst 0, 1) := by decide +kernel
theorem dX0_isFieldRight_50 : decode cX0_isFieldRight 50 = .ok (.ireturn, 1) := by decide +kernel
theorem dX0_isFieldRight_51 : decode cX0_isFieldRight 51 = .ok (.aload_n 0, 1) := by decide +kernel
theorem dX0_isFieldRight_52 : decode cX0_isFieldRight 52 = .ok (.dup, 1) := by decide +kernel
theorem dX0_isFieldRight_53 : decode cX0_isFieldRight 53 = .ok (.getfield 9, 3) := by decide +kernel
theorem dX0_isFieldRight_56 : decode cX0_isFieldRight 56 = .ok (.iconst 1, 1) := by decide +kernel
theorem dX0_isFieldRight_57 : decode cX0_isFieldRight 57 = .ok (.iadd, 1) := by decide +kernel
theorem dX0_isFieldRight_58 : decode cX0_isFieldRight 58 = .ok (.putfield 9, 3) := by decide +kernel
theorem dX0_isFieldRight_61 : decode cX0_isFieldRight 61 = .ok (.aload_n 0, 1) := by decide +kernel
theorem dX0_isFieldRight_62 : decode cX0_isFieldRight 62 = .ok (.getfield 19, 3) := by decide +kernel
theorem dX0_isFieldRight_65 : decode cX0_isFieldRight 65 = .ok (.iload_n 1, 1) := by decide +kernel
theorem dX0_isFieldRight_66 : decode cX0_isFieldRight 66 = .ok (.iload_n 2, 1) := by decide +kernel
theorem dX0_isFieldRight_67 : decode cX0_isFieldRight 67 = .ok (.iload_n 3, 1) := by decide +kernel
theorem dX0_isFieldRight_68 : decode cX0_isFieldRight 68 = .ok (.invokevirtual 69, 3) := by decide +kernel
theorem dX0_isFieldRight_71 : decode cX0_isFieldRight 71 = .ok (.iload_n 3, 1) := by decide +kernel
theorem dX0_isFieldRight_72 : decode cX0_isFieldRight 72 = .ok (.iconst 1, 1) := by decide +kernel
theorem dX0_isFieldRight_73 : decode cX0_isFieldRight 73 = .ok (.if_icmp .eq 8, 3) := by decide +kernel
theorem dX0_isFieldRight_76 : decode cX0_isFieldRight 76 = .ok (.iload_n 3, 1) := by decide +kernel
theorem dX0_isFieldRight_77 : decode cX0_isFieldRight 77 = .ok (.iconst 2, 1) := by decide +kernel
theorem dX0_isFieldRight_78 : decode cX0_isFieldRight 78 = .ok (.if_icmp .ne 7, 3) := by decide +kernel
theorem dX0_isFieldRight_81 : decode cX0_isFieldRight 81 = .ok (.iconst 1, 1) := by decide +kernel
theorem dX0_isFieldRight_82 : decode cX0_isFieldRight 82 = .ok (.goto 4, 3) := by decide +kernel
theorem dX0_isFieldRight_85 : decode cX0_isFieldRight 85 = .ok (.iconst 0, 1) := by decide +kernel
theorem dX0_isFieldRight_86 : decode cX0_isFieldRight 86 = .ok (.istore 4, 2) := by decide +kernel
theorem dX0_isFieldRight_88 : decode cX0_isFieldRight 88 = .ok (.iload 4, 2) := by decide +kernel
theorem dX0_isFieldRight_90 : decode cX0_isFieldRight 90 = .ok (.ifCond .eq 24, 3) := by decide +kernel
theorem dX0_isFieldRight_93 : decode cX0_isFieldRight 93 = .ok (.aload_n 0, 1) := by decide +kernel
theorem dX0_isFieldRight_94 : decode cX0_isFieldRight 94 = .ok (.bipush 64, 2) := by decide +kernel
theorem dX0_isFieldRight_96 : decode cX0_isFieldRight 96 = .ok (.invokevirtual 32, 3) := by decide +kernel
theorem dX0_isFieldRight_99 : decode cX0_isFieldRight 99 = .ok (.ifCond .eq 15, 3) := by decide +kernel
theorem dX0_isFieldRight_102 : decode cX0_isFieldRight 102 = .ok (.aload_n 0, 1) := by decide +kernel
theorem dX0_isFieldRight_103 : decode cX0_isFieldRight 103 = .ok (.getfield 19, 3) := by decide +kernel
theorem dX0_isFieldRight_106 : decode cX0_isFieldRight 106 = .ok (.iload_n 1, 1) := by decide +kernel
theorem dX0_isFieldRight_107 : decode cX0_isFieldRight 107 = .ok (.iload_n 2, 1) := by decide +kernel
theorem dX0_isFieldRight_108 : decode cX0_isFieldRight 108 = .ok (.invokevirtual 73, 3) := by decide +kernel
theorem dX0_isFieldRight_111 : decode cX0_isFieldRight 111 = .ok (.goto 38, 3) := by decide +kernel
theorem dX0_isFieldRight_114 : decode cX0_isFieldRight 114 = .ok (.iload_n 3, 1) := by decide +kernel
theorem dX0_isFieldRight_115 : decode cX0_isFieldRight 115 = .ok (.iconst 4, 1) := by decide +kernel
theorem dX0_isFieldRight_116 : decode cX0_isFieldRight 116 = .ok (.if_icmp .ne 33, 3) := by decide +kernel
theorem dX0_isFieldRight_119 : decode cX0_isFieldRight 119 = .ok (.aload_n 0, 1) := by decide +kernel
theorem dX0_isFieldRight_120 : decode cX0_isFieldRight 120 = .ok (.getfield 19, 3) := by decide +kernel
theorem dX0_isFieldRight_123 : decode cX0_isFieldRight 123 = .ok (.iload_n 1, 1) := by decide +kernel
theorem dX0_isFieldRight_124 : decode cX0_isFieldRight 124 = .ok (.invokevirtual 77, 3) := by decide +kernel
theorem dX0_isFieldRight_127 : decode cX0_isFieldRight 127 = .ok (.iconst (-1), 1) := by decide +kernel
theorem dX0_isFieldRight_128 : decode cX0_isFieldRight 128 = .ok (.if_icmp .ne 21, 3) := by decide +kernel
theorem dX0_isFieldRight_131 : decode cX0_isFieldRight 131 = .ok (.aload_n 0, 1) := by decide +kernel
theorem dX0_isFieldRight_132 : decode cX0_isFieldRight 132 = .ok (.bipush 42, 2) := by decide +kernel
theorem dX0_isFieldRight_134 : decode cX0_isFieldRight 134 = .ok (.invokevirtual 32, 3) := by decide +kernel
theorem dX0_isFieldRight_137 : decode cX0_isFieldRight 137 = .ok (.ifCond .eq 12, 3) := by decide +kernel
theorem dX0_isFieldRight_140 : decode cX0_isFieldRight 140 = .ok (.aload_n 0, 1) := by decide +kernel
theorem dX0_isFieldRight_141 : decode cX0_isFieldRight 141 = .ok (.getfield 19, 3) := by decide +kernel
theorem dX0_isFieldRight_144 : decode cX0_isFieldRight 144 = .ok (.iload_n 1, 1) := by decide +kernel
theorem dX0_isFieldRight_145 : decode cX0_isFieldRight 145 = .ok (.iload_n 2, 1) := by decide +kernel
theorem dX0_isFieldRight_146 : decode cX0_isFieldRight 146 = .ok (.invokevirtual 80, 3) := by decide +kernel
theorem dX0_isFieldRight_149 : decode cX0_isFieldRight 149 = .ok (.iconst 1, 1) := by decide +kernel
theorem dX0_isFieldRight_150 : decode cX0_isFieldRight 150 = .ok (.ireturn, 1) := by decide +kernel
theorem dX0_isNameRight_0 : decode cX0_isNameRight 0 = .ok (.aload_n 0, 1) := by decide +kernel
theorem dX0_isNameRight_1 : decode cX0_isNameRight 1 = .ok (.getfield 15, 3) := by decide +kernel
theorem dX0_isNameRight_4 : decode cX0_isNameRight 4 = .ok (.aload_n 0, 1) := by decide +kernel
theorem dX0_isNameRight_5 : decode cX0_isNameRight 5 = .ok (.getfield 9, 3) := by decide +kernel
theorem dX0_isNameRight_8 : decode cX0_isNameRight 8 = .ok (.invokevirtual 62, 3) := by decide +kernel
theorem dX0_isNameRight_11 : decode cX0_isNameRight 11 = .ok (.invokestatic 83, 3) := by decide +kernel
theorem dX0_isNameRight_14 : decode cX0_isNameRight 14 = .ok (.ifCond .ne 20, 3) := by decide +kernel
theorem dX0_isNameRight_17 : decode cX0_isNameRight 17 = .ok (.aload_n 0, 1) := by decide +kernel
theorem dX0_isNameRight_18 : decode cX0_isNameRight 18 = .ok (.getfield 15, 3) := by decide +kernel
theorem dX0_isNameRight_21 : decode cX0_isNameRight 21 = .ok (.aload_n 0, 1) := by decide +kernel
theorem dX0_isNameRight_22 : decode cX0_isNameRight 22 = .ok (.getfield 9, 3) := by decide +kernel
theorem dX0_isNameRight_25 : decode cX0_isNameRight 25 = .ok (.invokevirtual 62, 3) := by decide +kernel
theorem dX0_isNameRight_28 : decode cX0_isNameRight 28 = .ok (.invokestatic 86, 3) := by decide +kernel
theorem dX0_isNameRight_31 : decode cX0_isNameRight 31 = .ok (.ifCond .ne 5, 3) := by decide +kernel
theorem dX0_isNameRight_34 : decode cX0_isNameRight 34 = .ok (.iconst 0, 1) := by decide +kernel
theorem dX0_isNameRight_35 : decode cX0_isNameRight 35 = .ok (.ireturn, 1) := by decide +kernel
theorem dX0_isNameRight_36 : decode cX0_isNameRight 36 = .ok (.iconst 0, 1) := by decide +kernel
theorem dX0_isNameRight_37 : decode cX0_isNameRight 37 = .ok (.istore_n 2, 1) := by decide +kernel
theorem dX0_isNameRight_38 : decode cX0_isNameRight 38 = .ok (.iload_n 2, 1) := by decide +kernel
theorem dX0_isNameRight_39 : decode cX0_isNameRight 39 = .ok (.bipush 8, 2) := by decide +kernel
theorem dX0_isNameRight_41 : decode cX0_isNameRight 41 = .ok (.if_icmp .ge 55, 3) := by decide +kernel
theorem dX0_isNameRight_44 : decode cX0_isNameRight 44 = .ok (.aload_n 0, 1) := by decide +kernel
theorem dX0_isNameRight_45 : decode cX0_isNameRight 45 = .ok (.getfield 15, 3) := by decide +kernel
theorem dX0_isNameRight_48 : decode cX0_isNameRight 48 = .ok (.aload_n 0, 1) := by decide +kernel
theorem dX0_isNameRight_49 : decode cX0_isNameRight 49 = .ok (.getfield 9, 3) := by decide +kernel
theorem dX0_isNameRight_52 : decode cX0_isNameRight 52 = .ok (.invokevirtual 62, 3) := by decide +kernel
theorem dX0_isNameRight_55 : decode cX0_isNameRight 55 = .ok (.invokestatic 86, 3) := by decide +kernel
theorem dX0_isNameRight_58 : decode cX0_isNameRight 58 = .ok (.ifCond .eq 38, 3) := by decide +kernel
theorem dX0_isNameRight_61 : decode cX0_isNameRight 61 = .ok (.aload_n 0, 1) := by decide +kernel
theorem dX0_isNameRight_62 : decode cX0_isNameRight 62 = .ok (.getfield 19, 3) := by decide +kernel
theorem dX0_isNameRight_65 : decode cX0_isNameRight 65 = .ok (.iload_n 1, 1) := by decide +kernel
theorem dX0_isNameRight_66 : decode cX0_isNameRight 66 = .ok (.aload_n 0, 1) := by decide +kernel
theorem dX0_isNameRight_67 : decode cX0_isNameRight 67 = .ok (.getfield 15, 3) := by decide +kernel
theorem dX0_isNameRight_70 : decode cX0_isNameRight 70 = .ok (.aload_n 0, 1) := by decide +kernel
theorem dX0_isNameRight_71 : decode cX0_isNameRight 71 = .ok (.getfield 9, 3) := by decide +kernel
theorem dX0_isNameRight_74 : decode cX0_isNameRight 74 = .ok (.invokevirtual 62, 3) := by decide +kernel
theorem dX0_isNameRight_77 : decode cX0_isNameRight 77 = .ok (.invokevirtual 89, 3) := by decide +kernel
theorem dX0_isNameRight_80 : decode cX0_isNameRight 80 = .ok (.aload_n 0, 1) := by decide +kernel
theorem dX0_isNameRight_81 : decode cX0_isNameRight 81 = .ok (.dup, 1) := by decide +kernel
theorem dX0_isNameRight_82 : decode cX0_isNameRight 82 = .ok (.getfield 9, 3) := by decide +kernel
theorem dX0_isNameRight_85 : decode cX0_isNameRight 85 = .ok (.iconst 1, 1) := by decide +kernel
theorem dX0_isNameRight_86 : decode cX0_isNameRight 86 = .ok (.iadd, 1) := by decide +kernel
theorem dX0_isNameRight_87 : decode cX0_isNameRight 87 = .ok (.putfield 9, 3) := by decide +kernel
theorem dX0_isNameRight_90 : decode cX0_isNameRight 90 = .ok (.iinc 2 1, 3) := by decide +kernel
theorem dX0_isNameRight_93 : decode cX0_isNameRight 93 = .ok (.goto (-55), 3) := by decide +kernel
theorem dX0_isNameRight_96 : decode cX0_isNameRight 96 = .ok (.iconst 1, 1) := by decide +kernel
theorem dX0_isNameRight_97 : decode cX0_isNameRight 97 = .ok (.ireturn, 1) := by decide +kernel
theorem dX0_skips_0 : decode cX0_skips 0 = .ok (.aload_n 0, 1) := by decide +kernel
theorem dX0_skips_1 : decode cX0_skips 1 = .ok (.getfield 15, 3) := by decide +kernel
theorem dX0_skips_4 : decode cX0_skips 4 = .ok (.aload_n 0, 1) := by decide +kernel
theorem dX0_skips_5 : decode cX0_skips 5 = .ok (.getfield 9, 3) := by decide +kernel
theorem dX0_skips_8 : decode cX0_skips 8 = .ok (.invokevirtual 62, 3) := by decide +kernel
theorem dX0_skips_11 : decode cX0_skips 11 = .ok (.iload_n 1, 1) := by decide +kernel
theorem dX0_skips_12 : decode cX0_skips 12 = .ok (.if_icmp .eq 5, 3) := by decide +kernel
theorem dX0_skips_15 : decode cX0_skips 15 = .ok (.iconst 0, 1) := by decide +kernel
theorem dX0_skips_16 : decode cX0_skips 16 = .ok (.ireturn, 1) := by decide +kernel
theorem dX0_skips_17 : decode cX0_skips 17 = .ok (.aload_n 0, 1) := by decide +kernel
theorem dX0_skips_18 : decode cX0_skips 18 = .ok (.dup, 1) := by decide +kernel
theorem dX0_skips_19 : decode cX0_skips 19 = .ok (.getfield 9, 3) := by decide +kernel
theorem dX0_skips_22 : decode cX0_skips 22 = .ok (.iconst 1, 1) := by decide +kernel
theorem dX0_skips_23 : decode cX0_skips 23 = .ok (.iadd, 1) := by decide +kernel
theorem dX0_skips_24 : decode cX0_skips 24 = .ok (.putfield 9, 3) := by decide +kernel
theorem dX0_skips_27 : decode cX0_skips 27 = .ok (.iconst 1, 1) := by decide +kernel
theorem dX0_skips_28 : decode cX0_skips 28 = .ok (.ireturn, 1) := by decide +kernel
theorem dX0_isNameSign_0 : decode cX0_isNameSign 0 = .ok (.iload_n 0, 1) := by decide +kernel
theorem dX0_isNameSign_1 : decode cX0_isNameSign 1 = .ok (.invokestatic 92, 3) := by decide +kernel
theorem dX0_isNameSign_4 : decode cX0_isNameSign 4 = .ok (.ifCond .ne 22, 3) := by decide +kernel
theorem dX0_isNameSign_7 : decode cX0_isNameSign 7 = .ok (.iload_n 0, 1) := by decide +kernel
theorem dX0_isNameSign_8 : decode cX0_isNameSign 8 = .ok (.invokestatic 83, 3) := by decide +kernel
theorem dX0_isNameSign_11 : decode cX0_isNameSign 11 = .ok (.ifCond .ne 15, 3) := by decide +kernel
theorem dX0_isNameSign_14 : decode cX0_isNameSign 14 = .ok (.iload_n 0, 1) := by decide +kernel
theorem dX0_isNameSign_15 : decode cX0_isNameSign 15 = .ok (.bipush 95, 2) := by decide +kernel
theorem dX0_isNameSign_17 : decode cX0_isNameSign 17 = .ok (.if_icmp .eq 9, 3) := by decide +kernel
theorem dX0_isNameSign_20 : decode cX0_isNameSign 20 = .ok (.iload_n 0, 1) := by decide +kernel
theorem dX0_isNameSign_21 : decode cX0_isNameSign 21 = .ok (.bipush 36, 2) := by decide +kernel
theorem dX0_isNameSign_23 : decode cX0_isNameSign 23 = .ok (.if_icmp .ne 7, 3) := by decide +kernel
theorem dX0_isNameSign_26 : decode cX0_isNameSign 26 = .ok (.iconst 1, 1) := by decide +kernel
theorem dX0_isNameSign_27 : decode cX0_isNameSign 27 = .ok (.goto 4, 3) := by decide +kernel
theorem dX0_isNameSign_30 : decode cX0_isNameSign 30 = .ok (.iconst 0, 1) := by decide +kernel
theorem dX0_isNameSign_31 : decode cX0_isNameSign 31 = .ok (.ireturn, 1) := by decide +kernel
theorem dX0_shapeOf_0 : decode cX0_shapeOf 0 = .ok (.iload_n 0, 1) := by decide +kernel
theorem dX0_shapeOf_1 : decode cX0_shapeOf 1 = .ok (.lookupswitch 51 #[(105, 43), (108, 49), (114, 47), (116, 45)], 43) := by decide +kernel
theorem dX0_shapeOf_44 : decode cX0_shapeOf 44 = .ok (.iconst 1, 1) := by decide +kernel
theorem dX0_shapeOf_45 : decode cX0_shapeOf 45 = .ok (.ireturn, 1) := by decide +kernel
theorem dX0_shapeOf_46 : decode cX0_shapeOf 46 = .ok (.iconst 2, 1) := by decide +kernel
theorem dX0_shapeOf_47 : decode cX0_shapeOf 47 = .ok (.ireturn, 1) := by decide +kernel
theorem dX0_shapeOf_48 : decode cX0_shapeOf 48 = .ok (.iconst 3, 1) := by decide +kernel
theorem dX0_shapeOf_49 : decode cX0_shapeOf 49 = .ok (.ireturn, 1) := by decide +kernel
theorem dX0_shapeOf_50 : decode cX0_shapeOf 50 = .ok (.iconst 4, 1) := by decide +kernel
theorem dX0_shapeOf_51 : decode cX0_shapeOf 51 = .ok (.ireturn, 1) := by decide +kernel
theorem dX0_shapeOf_52 : decode cX0_shapeOf 52 = .ok (.iconst 0, 1) := by decide +kernel
theorem dX0_shapeOf_53 : decode cX0_shapeOf 53 = .ok (.ireturn, 1) := by decide +kernel
theorem dX1_init_0 : decode cX1_init 0 = .ok (.aload_n 0, 1) := by decide +kernel
theorem dX1_init_1 : decode cX1_init 1 = .ok (.invokespecial 3, 3) := by decide +kernel
theorem dX1_init_4 : decode cX1_init 4 = .ok (.aload_n 0, 1) := by decide +kernel
theorem dX1_init_5 : decode cX1_init 5 = .ok (.bipush 30, 2) := by decide +kernel
theorem dX1_init_7 : decode cX1_init 7 = .ok (.newarray .int, 2) := by decide +kernel
theorem dX1_init_9 : decode cX1_init 9 = .ok (.putfield 9, 3) := by decide +kernel
theorem dX1_init_12 : decode cX1_init 12 = .ok (.aload_n 0, 1) := by decide +kernel
theorem dX1_init_13 : decode cX1_init 13 = .ok (.bipush 120, 2) := by decide +kernel
theorem dX1_init_15 : decode cX1_init 15 = .ok (.newarray .int, 2) := by decide +kernel
theorem dX1_init_17 : decode cX1_init 17 = .ok (.putfield 15, 3) := by decide +kernel
theorem dX1_init_20 : decode cX1_init 20 = .ok (.aload_n 0, 1) := by decide +kernel
theorem dX1_init_21 : decode cX1_init 21 = .ok (.sipush 2400, 3) := by decide +kernel
theorem dX1_init_24 : decode cX1_init 24 = .ok (.newarray .int, 2) := by decide +kernel
theorem dX1_init_26 : decode cX1_init 26 = .ok (.putfield 18, 3) := by decide +kernel
theorem dX1_init_29 : decode cX1_init 29 = .ok (.aload_n 0, 1) := by decide +kernel
theorem dX1_init_30 : decode cX1_init 30 = .ok (.iconst 0, 1) := by decide +kernel
theorem dX1_init_31 : decode cX1_init 31 = .ok (.putfield 21, 3) := by decide +kernel
theorem dX1_init_34 : decode cX1_init 34 = .ok (.return_, 1) := by decide +kernel
theorem dX1_size_0 : decode cX1_size 0 = .ok (.aload_n 0, 1) := by decide +kernel
theorem dX1_size_1 : decode cX1_size 1 = .ok (.getfield 21, 3) := by decide +kernel
theorem dX1_size_4 : decode cX1_size 4 = .ok (.ireturn, 1) := by decide +kernel
theorem dX1_has_0 : decode cX1_has 0 = .ok (.iload_n 1, 1) := by decide +kernel
theorem dX1_has_1 : decode cX1_has 1 = .ok (.ifCond .lt 15, 3) := by decide +kernel
theorem dX1_has_4 : decode cX1_has 4 = .ok (.iload_n 1, 1) := by decide +kernel
theorem dX1_has_5 : decode cX1_has 5 = .ok (.aload_n 0, 1) := by decide +kernel
theorem dX1_has_6 : decode cX1_has 6 = .ok (.getfield 21, 3) := by decide +kernel
theorem dX1_has_9 : decode cX1_has 9 = .ok (.if_icmp .ge 7, 3) := by decide +kernel
theorem dX1_has_12 : decode cX1_has 12 = .ok (.iconst 1, 1) := by decide +kernel
theorem dX1_has_13 : decode cX1_has 13 = .ok (.goto 4, 3) := by decide +kernel
theorem dX1_has_16 : decode cX1_has 16 = .ok (.iconst 0, 1) := by decide +kernel
theorem dX1_has_17 : decode cX1_has 17 = .ok (.ireturn, 1) := by decide +kernel
theorem dX1_clear_0 : decode cX1_clear 0 = .ok (.aload_n 0, 1) := by decide +kernel
theorem dX1_clear_1 : decode cX1_clear 1 = .ok (.iconst 0, 1) := by decide +kernel
theorem dX1_clear_2 : decode cX1_clear 2 = .ok (.putfield 21, 3) := by decide +kernel
theorem dX1_clear_5 : decode cX1_clear 5 = .ok (.return_, 1) := by decide +kernel
theorem dX1_born_0 : decode cX1_born 0 = .ok (.aload_n 0, 1) := by decide +kernel
theorem dX1_born_1 : decode cX1_born 1 = .ok (.getfield 21, 3) := by decide +kernel
theorem dX1_born_4 : decode cX1_born 4 = .ok (.bipush 30, 2) := by decide +kernel
theorem dX1_born_6 : decode cX1_born 6 = .ok (.if_icmp .lt 5, 3) := by decide +kernel
theorem dX1_born_9 : decode cX1_born 9 = .ok (.iconst (-1), 1) := by decide +kernel
theorem dX1_born_10 : decode cX1_born 10 = .ok (.ireturn, 1) := by decide +kernel
theorem dX1_born_11 : decode cX1_born 11 = .ok (.aload_n 0, 1) := by decide +kernel
theorem dX1_born_12 : decode cX1_born 12 = .ok (.getfield 9, 3) := by decide +kernel
theorem dX1_born_15 : decode cX1_born 15 = .ok (.aload_n 0, 1) := by decide +kernel
theorem dX1_born_16 : decode cX1_born 16 = .ok (.getfield 21, 3) := by decide +kernel
theorem dX1_born_19 : decode cX1_born 19 = .ok (.iload_n 1, 1) := by decide +kernel
theorem dX1_born_20 : decode cX1_born 20 = .ok (.iastore, 1) := by decide +kernel
theorem dX1_born_21 : decode cX1_born 21 = .ok (.iconst 0, 1) := by decide +kernel
theorem dX1_born_22 : decode cX1_born 22 = .ok (.istore_n 3, 1) := by decide +kernel
theorem dX1_born_23 : decode cX1_born 23 = .ok (.iload_n 3, 1) := by decide +kernel
theorem dX1_born_24 : decode cX1_born 24 = .ok (.iconst 4, 1) := by decide +kernel
theorem dX1_born_25 : decode cX1_born 25 = .ok (.if_icmp .ge 36, 3) := by decide +kernel
theorem dX1_born_28 : decode cX1_born 28 = .ok (.aload_n 0, 1) := by decide +kernel
theorem dX1_born_29 : decode cX1_born 29 = .ok (.getfield 15, 3) := by decide +kernel
theorem dX1_born_32 : decode cX1_born 32 = .ok (.aload_n 0, 1) := by decide +kernel
theorem dX1_born_33 : decode cX1_born 33 = .ok (.getfield 21, 3) := by decide +kernel
theorem dX1_born_36 : decode cX1_born 36 = .ok (.iconst 4, 1) := by decide +kernel
theorem dX1_born_37 : decode cX1_born 37 = .ok (.imul, 1) := by decide +kernel
theorem dX1_born_38 : decode cX1_born 38 = .ok (.iload_n 3, 1) := by decide +kernel
theorem dX1_born_39 : decode cX1_born 39 = .ok (.iadd, 1) := by decide +kernel
theorem dX1_born_40 : decode cX1_born 40 = .ok (.iload_n 2, 1) := by decide +kernel
theorem dX1_born_41 : decode cX1_born 41 = .ok (.iload_n 3, 1) := by decide +kernel
theorem dX1_born_42 : decode cX1_born 42 = .ok (.ishr, 1) := by decide +kernel
theorem dX1_born_43 : decode cX1_born 43 = .ok (.iconst 1, 1) := by decide +kernel
theorem dX1_born_44 : decode cX1_born 44 = .ok (.iand, 1) := by decide +kernel
theorem dX1_born_45 : decode cX1_born 45 = .ok (.ifCond .eq 8, 3) := by decide +kernel
theorem dX1_born_48 : decode cX1_born 48 = .ok (.bipush (-2), 2) := by decide +kernel
theorem dX1_born_50 : decode cX1_born 50 = .ok (.goto 4, 3) := by decide +kernel
theorem dX1_born_53 : decode cX1_born 53 = .ok (.iconst 0, 1) := by decide +kernel
theorem dX1_born_54 : decode cX1_born 54 = .ok (.iastore, 1) := by decide +kernel
theorem dX1_born_55 : decode cX1_born 55 = .ok (.iinc 3 1, 3) := by decide +kernel
theorem dX1_born_58 : decode cX1_born 58 = .ok (.goto (-35), 3) := by decide +kernel
theorem dX1_born_61 : decode cX1_born 61 = .ok (.aload_n 0, 1) := by decide +kernel
theorem dX1_born_62 : decode cX1_born 62 = .ok (.dup, 1) := by decide +kernel
theorem dX1_born_63 : decode cX1_born 63 = .ok (.getfield 21, 3) := by decide +kernel
theorem dX1_born_66 : decode cX1_born 66 = .ok (.iconst 1, 1) := by decide +kernel
theorem dX1_born_67 : decode cX1_born 67 = .ok (.iadd, 1) := by decide +kernel
theorem dX1_born_68 : decode cX1_born 68 = .ok (.putfield 21, 3) := by decide +kernel
theorem dX1_born_71 : decode cX1_born 71 = .ok (.aload_n 0, 1) := by decide +kernel
theorem dX1_born_72 : decode cX1_born 72 = .ok (.getfield 21, 3) := by decide +kernel
theorem dX1_born_75 : decode cX1_born 75 = .ok (.iconst 1, 1) := by decide +kernel
theorem dX1_born_76 : decode cX1_born 76 = .ok (.isub, 1) := by decide +kernel
theorem dX1_born_77 : decode cX1_born 77 = .ok (.ireturn, 1) := by decide +kernel
theorem dX1_classOf_0 : decode cX1_classOf 0 = .ok (.aload_n 0, 1) := by decide +kernel
theorem dX1_classOf_1 : decode cX1_classOf 1 = .ok (.iload_n 1, 1) := by decide +kernel
theorem dX1_classOf_2 : decode cX1_classOf 2 = .ok (.invokevirtual 25, 3) := by decide +kernel
theorem dX1_classOf_5 : decode cX1_classOf 5 = .ok (.ifCond .eq 12, 3) := by decide +kernel
theorem dX1_classOf_8 : decode cX1_classOf 8 = .ok (.aload_n 0, 1) := by decide +kernel
theorem dX1_classOf_9 : decode cX1_classOf 9 = .ok (.getfield 9, 3) := by decide +kernel
theorem dX1_classOf_12 : decode cX1_classOf 12 = .ok (.iload_n 1, 1) := by decide +kernel
theorem dX1_classOf_13 : decode cX1_classOf 13 = .ok (.iaload, 1) := by decide +kernel
theorem dX1_classOf_14 : decode cX1_classOf 14 = .ok (.goto 4, 3) := by decide +kernel
theorem dX1_classOf_17 : decode cX1_classOf 17 = .ok (.iconst (-1), 1) := by decide +kernel
theorem dX1_classOf_18 : decode cX1_classOf 18 = .ok (.ireturn, 1) := by decide +kernel
theorem dX1_hasField_0 : decode cX1_hasField 0 = .ok (.iload_n 1, 1) := by decide +kernel
theorem dX1_hasField_1 : decode cX1_hasField 1 = .ok (.ifCond .lt 24, 3) := by decide +kernel
theorem dX1_hasField_4 : decode cX1_hasField 4 = .ok (.iload_n 1, 1) := by decide +kernel
theorem dX1_hasField_5 : decode cX1_hasField 5 = .ok (.aload_n 0, 1) := by decide +kernel
theorem dX1_hasField_6 : decode cX1_hasField 6 = .ok (.getfield 21, 3) := by decide +kernel
theorem dX1_hasField_9 : decode cX1_hasField 9 = .ok (.if_icmp .ge 16, 3) := by decide +kernel
theorem dX1_hasField_12 : decode cX1_hasField 12 = .ok (.iload_n 2, 1) := by decide +kernel
theorem dX1_hasField_13 : decode cX1_hasField 13 = .ok (.ifCond .lt 12, 3) := by decide +kernel
theorem dX1_hasField_16 : decode cX1_hasField 16 = .ok (.iload_n 2, 1) := by decide +kernel
theorem dX1_hasField_17 : decode cX1_hasField 17 = .ok (.iconst 4, 1) := by decide +kernel
theorem dX1_hasField_18 : decode cX1_hasField 18 = .ok (.if_icmp .ge 7, 3) := by decide +kernel
theorem dX1_hasField_21 : decode cX1_hasField 21 = .ok (.iconst 1, 1) := by decide +kernel
theorem dX1_hasField_22 : decode cX1_hasField 22 = .ok (.goto 4, 3) := by decide +kernel
theorem dX1_hasField_25 : decode cX1_hasField 25 = .ok (.iconst 0, 1) := by decide +kernel
theorem dX1_hasField_26 : decode cX1_hasField 26 = .ok (.ireturn, 1) := by decide +kernel
theorem dX1_head_0 : decode cX1_head 0 = .ok (.aload_n 0, 1) := by decide +kernel
theorem dX1_head_1 : decode cX1_head 1 = .ok (.iload_n 1, 1) := by decide +kernel
theorem dX1_head_2 : decode cX1_head 2 = .ok (.iload_n 2, 1) := by decide +kernel
theorem dX1_head_3 : decode cX1_head 3 = .ok (.invokevirtual 29, 3) := by decide +kernel
theorem dX1_head_6 : decode cX1_head 6 = .ok (.ifCond .eq 16, 3) := by decide +kernel
theorem dX1_head_9 : decode cX1_head 9 = .ok (.aload_n 0, 1) := by decide +kernel
theorem dX1_head_10 : decode cX1_head 10 = .ok (.getfield 15, 3) := by decide +kernel
theorem dX1_head_13 : decode cX1_head 13 = .ok (.iload_n 1, 1) := by decide +kernel
theorem dX1_head_14 : decode cX1_head 14 = .ok (.iconst 4, 1) := by decide +kernel
theorem dX1_head_15 : decode cX1_head 15 = .ok (.imul, 1) := by decide +kernel
theorem dX1_head_16 : decode cX1_head 16 = .ok (.iload_n 2, 1) := by decide +kernel
theorem dX1_head_17 : decode cX1_head 17 = .ok (.iadd, 1) := by decide +kernel
theorem dX1_head_18 : decode cX1_head 18 = .ok (.iaload, 1) := by decide +kernel
theorem dX1_head_19 : decode cX1_head 19 = .ok (.goto 4, 3) := by decide +kernel
theorem dX1_head_22 : decode cX1_head 22 = .ok (.iconst 0, 1) := by decide +kernel
theorem dX1_head_23 : decode cX1_head 23 = .ok (.ireturn, 1) := by decide +kernel
theorem dX1_putHead_0 : decode cX1_putHead 0 = .ok (.aload_n 0, 1) := by decide +kernel
theorem dX1_putHead_1 : decode cX1_putHead 1 = .ok (.iload_n 1, 1) := by decide +kernel
theorem dX1_putHead_2 : decode cX1_putHead 2 = .ok (.iload_n 2, 1) := by decide +kernel
theorem dX1_putHead_3 : decode cX1_putHead 3 = .ok (.invokevirtual 29, 3) := by decide +kernel
theorem dX1_putHead_6 : decode cX1_putHead 6 = .ok (.ifCond .eq 14, 3) := by decide +kernel
theorem dX1_putHead_9 : decode cX1_putHead 9 = .ok (.aload_n 0, 1) := by decide +kernel
theorem dX1_putHead_10 : decode cX1_putHead 10 = .ok (.getfield 15, 3) := by decide +kernel
theorem dX1_putHead_13 : decode cX1_putHead 13 = .ok (.iload_n 1, 1) := by decide +kernel
theorem dX1_putHead_14 : decode cX1_putHead 14 = .ok (.iconst 4, 1) := by decide +kernel
theorem dX1_putHead_15 : decode cX1_putHead 15 = .ok (.imul, 1) := by decide +kernel
theorem dX1_putHead_16 : decode cX1_putHead 16 = .ok (.iload_n 2, 1) := by decide +kernel
theorem dX1_putHead_17 : decode cX1_putHead 17 = .ok (.iadd, 1) := by decide +kernel
theorem dX1_putHead_18 : decode cX1_putHead 18 = .ok (.iload_n 3, 1) := by decide +kernel
theorem dX1_putHead_19 : decode cX1_putHead 19 = .ok (.iastore, 1) := by decide +kernel
theorem dX1_putHead_20 : decode cX1_putHead 20 = .ok (.return_, 1) := by decide +kernel
theorem dX1_hasCell_0 : decode cX1_hasCell 0 = .ok (.iload_n 1, 1) := by decide +kernel
theorem dX1_hasCell_1 : decode cX1_hasCell 1 = .ok (.ifCond .lt 48, 3) := by decide +kernel
theorem dX1_hasCell_4 : decode cX1_hasCell 4 = .ok (.iload_n 1, 1) := by decide +kernel
theorem dX1_hasCell_5 : decode cX1_hasCell 5 = .ok (.aload_n 0, 1) := by decide +kernel
theorem dX1_hasCell_6 : decode cX1_hasCell 6 = .ok (.getfield 21, 3) := by decide +kernel
theorem dX1_hasCell_9 : decode cX1_hasCell 9 = .ok (.if_icmp .ge 40, 3) := by decide +kernel
theorem dX1_hasCell_12 : decode cX1_hasCell 12 = .ok (.iload_n 2, 1) := by decide +kernel
theorem dX1_hasCell_13 : decode cX1_hasCell 13 = .ok (.ifCond .lt 36, 3) := by decide +kernel
theorem dX1_hasCell_16 : decode cX1_hasCell 16 = .ok (.iload_n 2, 1) := by decide +kernel
theorem dX1_hasCell_17 : decode cX1_hasCell 17 = .ok (.iconst 4, 1) := by decide +kernel
theorem dX1_hasCell_18 : decode cX1_hasCell 18 = .ok (.if_icmp .ge 31, 3) := by decide +kernel
theorem dX1_hasCell_21 : decode cX1_hasCell 21 = .ok (.iload_n 3, 1) := by decide +kernel
theorem dX1_hasCell_22 : decode cX1_hasCell 22 = .ok (.ifCond .lt 27, 3) := by decide +kernel
theorem dX1_hasCell_25 : decode cX1_hasCell 25 = .ok (.iload_n 3, 1) := by decide +kernel
theorem dX1_hasCell_26 : decode cX1_hasCell 26 = .ok (.bipush 20, 2) := by decide +kernel
theorem dX1_hasCell_28 : decode cX1_hasCell 28 = .ok (.if_icmp .ge 21, 3) := by decide +kernel
theorem dX1_hasCell_31 : decode cX1_hasCell 31 = .ok (.iload_n 3, 1) := by decide +kernel
theorem dX1_hasCell_32 : decode cX1_hasCell 32 = .ok (.aload_n 0, 1) := by decide +kernel
theorem dX1_hasCell_33 : decode cX1_hasCell 33 = .ok (.getfield 15, 3) := by decide +kernel
theorem dX1_hasCell_36 : decode cX1_hasCell 36 = .ok (.iload_n 1, 1) := by decide +kernel
theorem dX1_hasCell_37 : decode cX1_hasCell 37 = .ok (.iconst 4, 1) := by decide +kernel
theorem dX1_hasCell_38 : decode cX1_hasCell 38 = .ok (.imul, 1) := by decide +kernel
theorem dX1_hasCell_39 : decode cX1_hasCell 39 = .ok (.iload_n 2, 1) := by decide +kernel
theorem dX1_hasCell_40 : decode cX1_hasCell 40 = .ok (.iadd, 1) := by decide +kernel
theorem dX1_hasCell_41 : decode cX1_hasCell 41 = .ok (.iaload, 1) := by decide +kernel
theorem dX1_hasCell_42 : decode cX1_hasCell 42 = .ok (.if_icmp .ge 7, 3) := by decide +kernel
theorem dX1_hasCell_45 : decode cX1_hasCell 45 = .ok (.iconst 1, 1) := by decide +kernel
theorem dX1_hasCell_46 : decode cX1_hasCell 46 = .ok (.goto 4, 3) := by decide +kernel
theorem dX1_hasCell_49 : decode cX1_hasCell 49 = .ok (.iconst 0, 1) := by decide +kernel
theorem dX1_hasCell_50 : decode cX1_hasCell 50 = .ok (.ireturn, 1) := by decide +kernel
theorem dX1_cell_0 : decode cX1_cell 0 = .ok (.aload_n 0, 1) := by decide +kernel
theorem dX1_cell_1 : decode cX1_cell 1 = .ok (.iload_n 1, 1) := by decide +kernel
theorem dX1_cell_2 : decode cX1_cell 2 = .ok (.iload_n 2, 1) := by decide +kernel
theorem dX1_cell_3 : decode cX1_cell 3 = .ok (.iload_n 3, 1) := by decide +kernel
theorem dX1_cell_4 : decode cX1_cell 4 = .ok (.invokevirtual 33, 3) := by decide +kernel
theorem dX1_cell_7 : decode cX1_cell 7 = .ok (.ifCond .eq 21, 3) := by decide +kernel
theorem dX1_cell_10 : decode cX1_cell 10 = .ok (.aload_n 0, 1) := by decide +kernel
theorem dX1_cell_11 : decode cX1_cell 11 = .ok (.getfield 18, 3) := by decide +kernel
theorem dX1_cell_14 : decode cX1_cell 14 = .ok (.iload_n 1, 1) := by decide +kernel
theorem dX1_cell_15 : decode cX1_cell 15 = .ok (.iconst 4, 1) := by decide +kernel
theorem dX1_cell_16 : decode cX1_cell 16 = .ok (.imul, 1) := by decide +kernel
theorem dX1_cell_17 : decode cX1_cell 17 = .ok (.iload_n 2, 1) := by decide +kernel
theorem dX1_cell_18 : decode cX1_cell 18 = .ok (.iadd, 1) := by decide +kernel
theorem dX1_cell_19 : decode cX1_cell 19 = .ok (.bipush 20, 2) := by decide +kernel
theorem dX1_cell_21 : decode cX1_cell 21 = .ok (.imul, 1) := by decide +kernel
theorem dX1_cell_22 : decode cX1_cell 22 = .ok (.iload_n 3, 1) := by decide +kernel
theorem dX1_cell_23 : decode cX1_cell 23 = .ok (.iadd, 1) := by decide +kernel
theorem dX1_cell_24 : decode cX1_cell 24 = .ok (.iaload, 1) := by decide +kernel
theorem dX1_cell_25 : decode cX1_cell 25 = .ok (.goto 5, 3) := by decide +kernel
theorem dX1_cell_28 : decode cX1_cell 28 = .ok (.bipush (-2), 2) := by decide +kernel
theorem dX1_cell_30 : decode cX1_cell 30 = .ok (.ireturn, 1) := by decide +kernel
theorem dX1_putCell_0 : decode cX1_putCell 0 = .ok (.aload_n 0, 1) := by decide +kernel
theorem dX1_putCell_1 : decode cX1_putCell 1 = .ok (.iload_n 1, 1) := by decide +kernel
theorem dX1_putCell_2 : decode cX1_putCell 2 = .ok (.iload_n 2, 1) := by decide +kernel
theorem dX1_putCell_3 : decode cX1_putCell 3 = .ok (.iload_n 3, 1) := by decide +kernel
theorem dX1_putCell_4 : decode cX1_putCell 4 = .ok (.invokevirtual 33, 3) := by decide +kernel
theorem dX1_putCell_7 : decode cX1_putCell 7 = .ok (.ifCond .eq 20, 3) := by decide +kernel
theorem dX1_putCell_10 : decode cX1_putCell 10 = .ok (.aload_n 0, 1) := by decide +kernel
theorem dX1_putCell_11 : decode cX1_putCell 11 = .ok (.getfield 18, 3) := by decide +kernel
theorem dX1_putCell_14 : decode cX1_putCell 14 = .ok (.iload_n 1, 1) := by decide +kernel
theorem dX1_putCell_15 : decode cX1_putCell 15 = .ok (.iconst 4, 1) := by decide +kernel
theorem dX1_putCell_16 : decode cX1_putCell 16 = .ok (.imul, 1) := by decide +kernel
theorem dX1_putCell_17 : decode cX1_putCell 17 = .ok (.iload_n 2, 1) := by decide +kernel
theorem dX1_putCell_18 : decode cX1_putCell 18 = .ok (.iadd, 1) := by decide +kernel
theorem dX1_putCell_19 : decode cX1_putCell 19 = .ok (.bipush 20, 2) := by decide +kernel
theorem dX1_putCell_21 : decode cX1_putCell 21 = .ok (.imul, 1) := by decide +kernel
theorem dX1_putCell_22 : decode cX1_putCell 22 = .ok (.iload_n 3, 1) := by decide +kernel
theorem dX1_putCell_23 : decode cX1_putCell 23 = .ok (.iadd, 1) := by decide +kernel
theorem dX1_putCell_24 : decode cX1_putCell 24 = .ok (.iload 4, 2) := by decide +kernel
theorem dX1_putCell_26 : decode cX1_putCell 26 = .ok (.iastore, 1) := by decide +kernel
theorem dX1_putCell_27 : decode cX1_putCell 27 = .ok (.return_, 1) := by decide +kernel
theorem dX1_append_0 : decode cX1_append 0 = .ok (.aload_n 0, 1) := by decide +kernel
theorem dX1_append_1 : decode cX1_append 1 = .ok (.iload_n 1, 1) := by decide +kernel
theorem dX1_append_2 : decode cX1_append 2 = .ok (.iload_n 2, 1) := by decide +kernel
theorem dX1_append_3 : decode cX1_append 3 = .ok (.invokevirtual 37, 3) := by decide +kernel
theorem dX1_append_6 : decode cX1_append 6 = .ok (.istore 4, 2) := by decide +kernel
theorem dX1_append_8 : decode cX1_append 8 = .ok (.iload 4, 2) := by decide +kernel
theorem dX1_append_10 : decode cX1_append 10 = .ok (.bipush 8, 2) := by decide +kernel
theorem dX1_append_12 : decode cX1_append 12 = .ok (.if_icmp .lt 5, 3) := by decide +kernel
theorem dX1_append_15 : decode cX1_append 15 = .ok (.iconst (-1), 1) := by decide +kernel
theorem dX1_append_16 : decode cX1_append 16 = .ok (.ireturn, 1) := by decide +kernel
theorem dX1_append_17 : decode cX1_append 17 = .ok (.aload_n 0, 1) := by decide +kernel
theorem dX1_append_18 : decode cX1_append 18 = .ok (.iload_n 1, 1) := by decide +kernel
theorem dX1_append_19 : decode cX1_append 19 = .ok (.iload_n 2, 1) := by decide +kernel
theorem dX1_append_20 : decode cX1_append 20 = .ok (.iload 4, 2) := by decide +kernel
theorem dX1_append_22 : decode cX1_append 22 = .ok (.iconst 1, 1) := by decide +kernel
theorem dX1_append_23 : decode cX1_append 23 = .ok (.iadd, 1) := by decide +kernel
theorem dX1_append_24 : decode cX1_append 24 = .ok (.invokevirtual 41, 3) := by decide +kernel
theorem dX1_append_27 : decode cX1_append 27 = .ok (.aload_n 0, 1) := by decide +kernel
theorem dX1_append_28 : decode cX1_append 28 = .ok (.iload_n 1, 1) := by decide +kernel
theorem dX1_append_29 : decode cX1_append 29 = .ok (.iload_n 2, 1) := by decide +kernel
theorem dX1_append_30 : decode cX1_append 30 = .ok (.iload 4, 2) := by decide +kernel
theorem dX1_append_32 : decode cX1_append 32 = .ok (.iload_n 3, 1) := by decide +kernel
theorem dX1_append_33 : decode cX1_append 33 = .ok (.invokevirtual 45, 3) := by decide +kernel
theorem dX1_append_36 : decode cX1_append 36 = .ok (.iload 4, 2) := by decide +kernel
theorem dX1_append_38 : decode cX1_append 38 = .ok (.iconst 1, 1) := by decide +kernel
theorem dX1_append_39 : decode cX1_append 39 = .ok (.iadd, 1) := by decide +kernel
theorem dX1_append_40 : decode cX1_append 40 = .ok (.ireturn, 1) := by decide +kernel
theorem dX1_putText_0 : decode cX1_putText 0 = .ok (.aload_n 0, 1) := by decide +kernel
theorem dX1_putText_1 : decode cX1_putText 1 = .ok (.iload_n 1, 1) := by decide +kernel
theorem dX1_putText_2 : decode cX1_putText 2 = .ok (.iload_n 2, 1) := by decide +kernel
theorem dX1_putText_3 : decode cX1_putText 3 = .ok (.invokevirtual 29, 3) := by decide +kernel
theorem dX1_putText_6 : decode cX1_putText 6 = .ok (.ifCond .ne 4, 3) := by decide +kernel
theorem dX1_putText_9 : decode cX1_putText 9 = .ok (.return_, 1) := by decide +kernel
theorem dX1_putText_10 : decode cX1_putText 10 = .ok (.iload_n 1, 1) := by decide +kernel
theorem dX1_putText_11 : decode cX1_putText 11 = .ok (.iconst 4, 1) := by decide +kernel
theorem dX1_putText_12 : decode cX1_putText 12 = .ok (.imul, 1) := by decide +kernel
theorem dX1_putText_13 : decode cX1_putText 13 = .ok (.iload_n 2, 1) := by decide +kernel
theorem dX1_putText_14 : decode cX1_putText 14 = .ok (.iadd, 1) := by decide +kernel
theorem dX1_putText_15 : decode cX1_putText 15 = .ok (.istore 6, 2) := by decide +kernel
theorem dX1_putText_17 : decode cX1_putText 17 = .ok (.aload_n 0, 1) := by decide +kernel
theorem dX1_putText_18 : decode cX1_putText 18 = .ok (.getfield 15, 3) := by decide +kernel
theorem dX1_putText_21 : decode cX1_putText 21 = .ok (.iload 6, 2) := by decide +kernel
theorem dX1_putText_23 : decode cX1_putText 23 = .ok (.iload 5, 2) := by decide +kernel
theorem dX1_putText_25 : decode cX1_putText 25 = .ok (.iload 4, 2) := by decide +kernel
theorem dX1_putText_27 : decode cX1_putText 27 = .ok (.isub, 1) := by decide +kernel
theorem dX1_putText_28 : decode cX1_putText 28 = .ok (.bipush 20, 2) := by decide +kernel
theorem dX1_putText_30 : decode cX1_putText 30 = .ok (.invokestatic 49, 3) := by decide +kernel
theorem dX1_putText_33 : decode cX1_putText 33 = .ok (.iastore, 1) := by decide +kernel
theorem dX1_putText_34 : decode cX1_putText 34 = .ok (.iconst 0, 1) := by decide +kernel
theorem dX1_putText_35 : decode cX1_putText 35 = .ok (.istore 7, 2) := by decide +kernel
theorem dX1_putText_37 : decode cX1_putText 37 = .ok (.iload 7, 2) := by decide +kernel
theorem dX1_putText_39 : decode cX1_putText 39 = .ok (.bipush 20, 2) := by decide +kernel
theorem dX1_putText_41 : decode cX1_putText 41 = .ok (.if_icmp .ge 43, 3) := by decide +kernel
theorem dX1_putText_44 : decode cX1_putText 44 = .ok (.iload 7, 2) := by decide +kernel
theorem dX1_putText_46 : decode cX1_putText 46 = .ok (.aload_n 0, 1) := by decide +kernel
theorem dX1_putText_47 : decode cX1_putText 47 = .ok (.getfield 15, 3) := by decide +kernel
theorem dX1_putText_50 : decode cX1_putText 50 = .ok (.iload 6, 2) := by decide +kernel
theorem dX1_putText_52 : decode cX1_putText 52 = .ok (.iaload, 1) := by decide +kernel
theorem dX1_putText_53 : decode cX1_putText 53 = .ok (.if_icmp .ge 31, 3) := by decide +kernel
theorem dX1_putText_56 : decode cX1_putText 56 = .ok (.aload_n 0, 1) := by decide +kernel
theorem dX1_putText_57 : decode cX1_putText 57 = .ok (.getfield 18, 3) := by decide +kernel
theorem dX1_putText_60 : decode cX1_putText 60 = .ok (.iload 6, 2) := by decide +kernel
theorem dX1_putText_62 : decode cX1_putText 62 = .ok (.bipush 20, 2) := by decide +kernel
theorem dX1_putText_64 : decode cX1_putText 64 = .ok (.imul, 1) := by decide +kernel
theorem dX1_putText_65 : decode cX1_putText 65 = .ok (.iload 7, 2) := by decide +kernel
theorem dX1_putText_67 : decode cX1_putText 67 = .ok (.iadd, 1) := by decide +kernel
theorem dX1_putText_68 : decode cX1_putText 68 = .ok (.aload_n 3, 1) := by decide +kernel
theorem dX1_putText_69 : decode cX1_putText 69 = .ok (.iload 4, 2) := by decide +kernel
theorem dX1_putText_71 : decode cX1_putText 71 = .ok (.iload 7, 2) := by decide +kernel
theorem dX1_putText_73 : decode cX1_putText 73 = .ok (.iadd, 1) := by decide +kernel
theorem dX1_putText_74 : decode cX1_putText 74 = .ok (.invokevirtual 54, 3) := by decide +kernel
theorem dX1_putText_77 : decode cX1_putText 77 = .ok (.iastore, 1) := by decide +kernel
theorem dX1_putText_78 : decode cX1_putText 78 = .ok (.iinc 7 1, 3) := by decide +kernel
theorem dX1_putText_81 : decode cX1_putText 81 = .ok (.goto (-44), 3) := by decide +kernel
theorem dX1_putText_84 : decode cX1_putText 84 = .ok (.return_, 1) := by decide +kernel
theorem dX2_init_0 : decode cX2_init 0 = .ok (.aload_n 0, 1) := by decide +kernel
theorem dX2_init_1 : decode cX2_init 1 = .ok (.invokespecial 3, 3) := by decide +kernel
theorem dX2_init_4 : decode cX2_init 4 = .ok (.aload_n 0, 1) := by decide +kernel
theorem dX2_init_5 : decode cX2_init 5 = .ok (.bipush 30, 2) := by decide +kernel
theorem dX2_init_7 : decode cX2_init 7 = .ok (.newarray .int, 2) := by decide +kernel
theorem dX2_init_9 : decode cX2_init 9 = .ok (.putfield 9, 3) := by decide +kernel
theorem dX2_init_12 : decode cX2_init 12 = .ok (.aload_n 0, 1) := by decide +kernel
theorem dX2_init_13 : decode cX2_init 13 = .ok (.bipush 30, 2) := by decide +kernel
theorem dX2_init_15 : decode cX2_init 15 = .ok (.newarray .int, 2) := by decide +kernel
theorem dX2_init_17 : decode cX2_init 17 = .ok (.putfield 15, 3) := by decide +kernel
theorem dX2_init_20 : decode cX2_init 20 = .ok (.aload_n 0, 1) := by decide +kernel
theorem dX2_init_21 : decode cX2_init 21 = .ok (.bipush 30, 2) := by decide +kernel
theorem dX2_init_23 : decode cX2_init 23 = .ok (.newarray .int, 2) := by decide +kernel
theorem dX2_init_25 : decode cX2_init 25 = .ok (.putfield 18, 3) := by decide +kernel
theorem dX2_init_28 : decode cX2_init 28 = .ok (.aload_n 0, 1) := by decide +kernel
theorem dX2_init_29 : decode cX2_init 29 = .ok (.iconst 0, 1) := by decide +kernel
theorem dX2_init_30 : decode cX2_init 30 = .ok (.putfield 21, 3) := by decide +kernel
theorem dX2_init_33 : decode cX2_init 33 = .ok (.aload_n 0, 1) := by decide +kernel
theorem dX2_init_34 : decode cX2_init 34 = .ok (.aload_n 1, 1) := by decide +kernel
theorem dX2_init_35 : decode cX2_init 35 = .ok (.putfield 25, 3) := by decide +kernel
theorem dX2_init_38 : decode cX2_init 38 = .ok (.aload_n 0, 1) := by decide +kernel
theorem dX2_init_39 : decode cX2_init 39 = .ok (.aload_n 2, 1) := by decide +kernel
theorem dX2_init_40 : decode cX2_init 40 = .ok (.putfield 29, 3) := by decide +kernel
theorem dX2_init_43 : decode cX2_init 43 = .ok (.aload_n 0, 1) := by decide +kernel
theorem dX2_init_44 : decode cX2_init 44 = .ok (.aload_n 3, 1) := by decide +kernel
theorem dX2_init_45 : decode cX2_init 45 = .ok (.putfield 33, 3) := by decide +kernel
theorem dX2_init_48 : decode cX2_init 48 = .ok (.return_, 1) := by decide +kernel
theorem dX2_holdsFrom_0 : decode cX2_holdsFrom 0 = .ok (.aload_n 0, 1) := by decide +kernel
theorem dX2_holdsFrom_1 : decode cX2_holdsFrom 1 = .ok (.getfield 9, 3) := by decide +kernel
theorem dX2_holdsFrom_4 : decode cX2_holdsFrom 4 = .ok (.bipush (-2), 2) := by decide +kernel
theorem dX2_holdsFrom_6 : decode cX2_holdsFrom 6 = .ok (.invokestatic 36, 3) := by decide +kernel
theorem dX2_holdsFrom_9 : decode cX2_holdsFrom 9 = .ok (.aload_n 0, 1) := by decide +kernel
theorem dX2_holdsFrom_10 : decode cX2_holdsFrom 10 = .ok (.getfield 15, 3) := by decide +kernel
theorem dX2_holdsFrom_13 : decode cX2_holdsFrom 13 = .ok (.bipush (-2), 2) := by decide +kernel
theorem dX2_holdsFrom_15 : decode cX2_holdsFrom 15 = .ok (.invokestatic 36, 3) := by decide +kernel
theorem dX2_holdsFrom_18 : decode cX2_holdsFrom 18 = .ok (.aload_n 0, 1) := by decide +kernel
theorem dX2_holdsFrom_19 : decode cX2_holdsFrom 19 = .ok (.iload_n 1, 1) := by decide +kernel
theorem dX2_holdsFrom_20 : decode cX2_holdsFrom 20 = .ok (.iload_n 2, 1) := by decide +kernel
theorem dX2_holdsFrom_21 : decode cX2_holdsFrom 21 = .ok (.invokevirtual 42, 3) := by decide +kernel
theorem dX2_holdsFrom_24 : decode cX2_holdsFrom 24 = .ok (.ifCond .ne 5, 3) := by decide +kernel
theorem dX2_holdsFrom_27 : decode cX2_holdsFrom 27 = .ok (.iconst 0, 1) := by decide +kernel
theorem dX2_holdsFrom_28 : decode cX2_holdsFrom 28 = .ok (.ireturn, 1) := by decide +kernel
theorem dX2_holdsFrom_29 : decode cX2_holdsFrom 29 = .ok (.iconst 0, 1) := by decide +kernel
theorem dX2_holdsFrom_30 : decode cX2_holdsFrom 30 = .ok (.istore_n 3, 1) := by decide +kernel
theorem dX2_holdsFrom_31 : decode cX2_holdsFrom 31 = .ok (.iload_n 3, 1) := by decide +kernel
theorem dX2_holdsFrom_32 : decode cX2_holdsFrom 32 = .ok (.bipush 30, 2) := by decide +kernel
theorem dX2_holdsFrom_34 : decode cX2_holdsFrom 34 = .ok (.if_icmp .ge 43, 3) := by decide +kernel
theorem dX2_holdsFrom_37 : decode cX2_holdsFrom 37 = .ok (.iload_n 3, 1) := by decide +kernel
theorem dX2_holdsFrom_38 : decode cX2_holdsFrom 38 = .ok (.aload_n 0, 1) := by decide +kernel
theorem dX2_holdsFrom_39 : decode cX2_holdsFrom 39 = .ok (.getfield 21, 3) := by decide +kernel
theorem dX2_holdsFrom_42 : decode cX2_holdsFrom 42 = .ok (.if_icmp .ge 35, 3) := by decide +kernel
theorem dX2_holdsFrom_45 : decode cX2_holdsFrom 45 = .ok (.aload_n 0, 1) := by decide +kernel
theorem dX2_holdsFrom_46 : decode cX2_holdsFrom 46 = .ok (.aload_n 0, 1) := by decide +kernel
theorem dX2_holdsFrom_47 : decode cX2_holdsFrom 47 = .ok (.getfield 18, 3) := by decide +kernel
theorem dX2_holdsFrom_50 : decode cX2_holdsFrom 50 = .ok (.iload_n 3, 1) := by decide +kernel
theorem dX2_holdsFrom_51 : decode cX2_holdsFrom 51 = .ok (.iaload, 1) := by decide +kernel
theorem dX2_holdsFrom_52 : decode cX2_holdsFrom 52 = .ok (.aload_n 0, 1) := by decide +kernel
theorem dX2_holdsFrom_53 : decode cX2_holdsFrom 53 = .ok (.getfield 9, 3) := by decide +kernel
theorem dX2_holdsFrom_56 : decode cX2_holdsFrom 56 = .ok (.aload_n 0, 1) := by decide +kernel
theorem dX2_holdsFrom_57 : decode cX2_holdsFrom 57 = .ok (.getfield 18, 3) := by decide +kernel
theorem dX2_holdsFrom_60 : decode cX2_holdsFrom 60 = .ok (.iload_n 3, 1) := by decide +kernel
theorem dX2_holdsFrom_61 : decode cX2_holdsFrom 61 = .ok (.iaload, 1) := by decide +kernel
theorem dX2_holdsFrom_62 : decode cX2_holdsFrom 62 = .ok (.iaload, 1) := by decide +kernel
theorem dX2_holdsFrom_63 : decode cX2_holdsFrom 63 = .ok (.invokevirtual 46, 3) := by decide +kernel
theorem dX2_holdsFrom_66 : decode cX2_holdsFrom 66 = .ok (.ifCond .ne 5, 3) := by decide +kernel
theorem dX2_holdsFrom_69 : decode cX2_holdsFrom 69 = .ok (.iconst 0, 1) := by decide +kernel
theorem dX2_holdsFrom_70 : decode cX2_holdsFrom 70 = .ok (.ireturn, 1) := by decide +kernel
theorem dX2_holdsFrom_71 : decode cX2_holdsFrom 71 = .ok (.iinc 3 1, 3) := by decide +kernel
theorem dX2_holdsFrom_74 : decode cX2_holdsFrom 74 = .ok (.goto (-43), 3) := by decide +kernel
theorem dX2_holdsFrom_77 : decode cX2_holdsFrom 77 = .ok (.iconst 1, 1) := by decide +kernel
theorem dX2_holdsFrom_78 : decode cX2_holdsFrom 78 = .ok (.ireturn, 1) := by decide +kernel
theorem dX2_pairs_0 : decode cX2_pairs 0 = .ok (.aload_n 0, 1) := by decide +kernel
theorem dX2_pairs_1 : decode cX2_pairs 1 = .ok (.getfield 29, 3) := by decide +kernel
theorem dX2_pairs_4 : decode cX2_pairs 4 = .ok (.iload_n 1, 1) := by decide +kernel
theorem dX2_pairs_5 : decode cX2_pairs 5 = .ok (.invokevirtual 49, 3) := by decide +kernel
theorem dX2_pairs_8 : decode cX2_pairs 8 = .ok (.ifCond .eq 14, 3) := by decide +kernel
theorem dX2_pairs_11 : decode cX2_pairs 11 = .ok (.aload_n 0, 1) := by decide +kernel
theorem dX2_pairs_12 : decode cX2_pairs 12 = .ok (.getfield 33, 3) := by decide +kernel
theorem dX2_pairs_15 : decode cX2_pairs 15 = .ok (.iload_n 2, 1) := by decide +kernel
theorem dX2_pairs_16 : decode cX2_pairs 16 = .ok (.invokevirtual 49, 3) := by decide +kernel
theorem dX2_pairs_19 : decode cX2_pairs 19 = .ok (.ifCond .ne 28, 3) := by decide +kernel
theorem dX2_pairs_22 : decode cX2_pairs 22 = .ok (.aload_n 0, 1) := by decide +kernel
theorem dX2_pairs_23 : decode cX2_pairs 23 = .ok (.getfield 29, 3) := by decide +kernel
theorem dX2_pairs_26 : decode cX2_pairs 26 = .ok (.iload_n 1, 1) := by decide +kernel
theorem dX2_pairs_27 : decode cX2_pairs 27 = .ok (.invokevirtual 49, 3) := by decide +kernel
theorem dX2_pairs_30 : decode cX2_pairs 30 = .ok (.aload_n 0, 1) := by decide +kernel
theorem dX2_pairs_31 : decode cX2_pairs 31 = .ok (.getfield 33, 3) := by decide +kernel
theorem dX2_pairs_34 : decode cX2_pairs 34 = .ok (.iload_n 2, 1) := by decide +kernel
theorem dX2_pairs_35 : decode cX2_pairs 35 = .ok (.invokevirtual 49, 3) := by decide +kernel
theorem dX2_pairs_38 : decode cX2_pairs 38 = .ok (.if_icmp .ne 7, 3) := by decide +kernel
theorem dX2_pairs_41 : decode cX2_pairs 41 = .ok (.iconst 1, 1) := by decide +kernel
theorem dX2_pairs_42 : decode cX2_pairs 42 = .ok (.goto 4, 3) := by decide +kernel
theorem dX2_pairs_45 : decode cX2_pairs 45 = .ok (.iconst 0, 1) := by decide +kernel
theorem dX2_pairs_46 : decode cX2_pairs 46 = .ok (.ireturn, 1) := by decide +kernel
theorem dX2_pairs_47 : decode cX2_pairs 47 = .ok (.aload_n 0, 1) := by decide +kernel
theorem dX2_pairs_48 : decode cX2_pairs 48 = .ok (.getfield 9, 3) := by decide +kernel
theorem dX2_pairs_51 : decode cX2_pairs 51 = .ok (.iload_n 1, 1) := by decide +kernel
theorem dX2_pairs_52 : decode cX2_pairs 52 = .ok (.iaload, 1) := by decide +kernel
theorem dX2_pairs_53 : decode cX2_pairs 53 = .ok (.bipush (-2), 2) := by decide +kernel
theorem dX2_pairs_55 : decode cX2_pairs 55 = .ok (.if_icmp .ne 14, 3) := by decide +kernel
theorem dX2_pairs_58 : decode cX2_pairs 58 = .ok (.aload_n 0, 1) := by decide +kernel
theorem dX2_pairs_59 : decode cX2_pairs 59 = .ok (.getfield 15, 3) := by decide +kernel
theorem dX2_pairs_62 : decode cX2_pairs 62 = .ok (.iload_n 2, 1) := by decide +kernel
theorem dX2_pairs_63 : decode cX2_pairs 63 = .ok (.iaload, 1) := by decide +kernel
theorem dX2_pairs_64 : decode cX2_pairs 64 = .ok (.bipush (-2), 2) := by decide +kernel
theorem dX2_pairs_66 : decode cX2_pairs 66 = .ok (.if_icmp .eq 19, 3) := by decide +kernel
theorem dX2_pairs_69 : decode cX2_pairs 69 = .ok (.aload_n 0, 1) := by decide +kernel
theorem dX2_pairs_70 : decode cX2_pairs 70 = .ok (.getfield 9, 3) := by decide +kernel
theorem dX2_pairs_73 : decode cX2_pairs 73 = .ok (.iload_n 1, 1) := by decide +kernel
theorem dX2_pairs_74 : decode cX2_pairs 74 = .ok (.iaload, 1) := by decide +kernel
theorem dX2_pairs_75 : decode cX2_pairs 75 = .ok (.iload_n 2, 1) := by decide +kernel
theorem dX2_pairs_76 : decode cX2_pairs 76 = .ok (.if_icmp .ne 7, 3) := by decide +kernel
theorem dX2_pairs_79 : decode cX2_pairs 79 = .ok (.iconst 1, 1) := by decide +kernel
theorem dX2_pairs_80 : decode cX2_pairs 80 = .ok (.goto 4, 3) := by decide +kernel
theorem dX2_pairs_83 : decode cX2_pairs 83 = .ok (.iconst 0, 1) := by decide +kernel
theorem dX2_pairs_84 : decode cX2_pairs 84 = .ok (.ireturn, 1) := by decide +kernel
theorem dX2_pairs_85 : decode cX2_pairs 85 = .ok (.aload_n 0, 1) := by decide +kernel
theorem dX2_pairs_86 : decode cX2_pairs 86 = .ok (.getfield 29, 3) := by decide +kernel
theorem dX2_pairs_89 : decode cX2_pairs 89 = .ok (.iload_n 1, 1) := by decide +kernel
theorem dX2_pairs_90 : decode cX2_pairs 90 = .ok (.invokevirtual 55, 3) := by decide +kernel
theorem dX2_pairs_93 : decode cX2_pairs 93 = .ok (.aload_n 0, 1) := by decide +kernel
theorem dX2_pairs_94 : decode cX2_pairs 94 = .ok (.getfield 33, 3) := by decide +kernel
theorem dX2_pairs_97 : decode cX2_pairs 97 = .ok (.iload_n 2, 1) := by decide +kernel
theorem dX2_pairs_98 : decode cX2_pairs 98 = .ok (.invokevirtual 55, 3) := by decide +kernel
theorem dX2_pairs_101 : decode cX2_pairs 101 = .ok (.if_icmp .ne 12, 3) := by decide +kernel
theorem dX2_pairs_104 : decode cX2_pairs 104 = .ok (.aload_n 0, 1) := by decide +kernel
theorem dX2_pairs_105 : decode cX2_pairs 105 = .ok (.getfield 21, 3) := by decide +kernel
theorem dX2_pairs_108 : decode cX2_pairs 108 = .ok (.bipush 30, 2) := by decide +kernel
theorem dX2_pairs_110 : decode cX2_pairs 110 = .ok (.if_icmp .lt 5, 3) := by decide +kernel
theorem dX2_pairs_113 : decode cX2_pairs 113 = .ok (.iconst 0, 1) := by decide +kernel
theorem dX2_pairs_114 : decode cX2_pairs 114 = .ok (.ireturn, 1) := by decide +kernel
theorem dX2_pairs_115 : decode cX2_pairs 115 = .ok (.aload_n 0, 1) := by decide +kernel
theorem dX2_pairs_116 : decode cX2_pairs 116 = .ok (.getfield 9, 3) := by decide +kernel
theorem dX2_pairs_119 : decode cX2_pairs 119 = .ok (.iload_n 1, 1) := by decide +kernel
theorem dX2_pairs_120 : decode cX2_pairs 120 = .ok (.iload_n 2, 1) := by decide +kernel
theorem dX2_pairs_121 : decode cX2_pairs 121 = .ok (.iastore, 1) := by decide +kernel
theorem dX2_pairs_122 : decode cX2_pairs 122 = .ok (.aload_n 0, 1) := by decide +kernel
theorem dX2_pairs_123 : decode cX2_pairs 123 = .ok (.getfield 15, 3) := by decide +kernel
theorem dX2_pairs_126 : decode cX2_pairs 126 = .ok (.iload_n 2, 1) := by decide +kernel
theorem dX2_pairs_127 : decode cX2_pairs 127 = .ok (.iload_n 1, 1) := by decide +kernel
theorem dX2_pairs_128 : decode cX2_pairs 128 = .ok (.iastore, 1) := by decide +kernel
theorem dX2_pairs_129 : decode cX2_pairs 129 = .ok (.aload_n 0, 1) := by decide +kernel
theorem dX2_pairs_130 : decode cX2_pairs 130 = .ok (.getfield 18, 3) := by decide +kernel
theorem dX2_pairs_133 : decode cX2_pairs 133 = .ok (.aload_n 0, 1) := by decide +kernel
theorem dX2_pairs_134 : decode cX2_pairs 134 = .ok (.getfield 21, 3) := by decide +kernel
theorem dX2_pairs_137 : decode cX2_pairs 137 = .ok (.iload_n 1, 1) := by decide +kernel
theorem dX2_pairs_138 : decode cX2_pairs 138 = .ok (.iastore, 1) := by decide +kernel
theorem dX2_pairs_139 : decode cX2_pairs 139 = .ok (.aload_n 0, 1) := by decide +kernel
theorem dX2_pairs_140 : decode cX2_pairs 140 = .ok (.dup, 1) := by decide +kernel
theorem dX2_pairs_141 : decode cX2_pairs 141 = .ok (.getfield 21, 3) := by decide +kernel
theorem dX2_pairs_144 : decode cX2_pairs 144 = .ok (.iconst 1, 1) := by decide +kernel
theorem dX2_pairs_145 : decode cX2_pairs 145 = .ok (.iadd, 1) := by decide +kernel
theorem dX2_pairs_146 : decode cX2_pairs 146 = .ok (.putfield 21, 3) := by decide +kernel
theorem dX2_pairs_149 : decode cX2_pairs 149 = .ok (.iconst 1, 1) := by decide +kernel
theorem dX2_pairs_150 : decode cX2_pairs 150 = .ok (.ireturn, 1) := by decide +kernel
theorem dX2_areFieldsAlike_0 : decode cX2_areFieldsAlike 0 = .ok (.aload_n 0, 1) := by decide +kernel
theorem dX2_areFieldsAlike_1 : decode cX2_areFieldsAlike 1 = .ok (.getfield 29, 3) := by decide +kernel
theorem dX2_areFieldsAlike_4 : decode cX2_areFieldsAlike 4 = .ok (.iload_n 1, 1) := by decide +kernel
theorem dX2_areFieldsAlike_5 : decode cX2_areFieldsAlike 5 = .ok (.invokevirtual 55, 3) := by decide +kernel
theorem dX2_areFieldsAlike_8 : decode cX2_areFieldsAlike 8 = .ok (.istore_n 3, 1) := by decide +kernel
theorem dX2_areFieldsAlike_9 : decode cX2_areFieldsAlike 9 = .ok (.iconst 0, 1) := by decide +kernel
theorem dX2_areFieldsAlike_10 : decode cX2_areFieldsAlike 10 = .ok (.istore 4, 2) := by decide +kernel
theorem dX2_areFieldsAlike_12 : decode cX2_areFieldsAlike 12 = .ok (.iload 4, 2) := by decide +kernel
theorem dX2_areFieldsAlike_14 : decode cX2_areFieldsAlike 14 = .ok (.aload_n 0, 1) := by decide +kernel
theorem dX2_areFieldsAlike_15 : decode cX2_areFieldsAlike 15 = .ok (.getfield 25, 3) := by decide +kernel
theorem dX2_areFieldsAlike_18 : decode cX2_areFieldsAlike 18 = .ok (.iload_n 3, 1) := by decide +kernel
theorem dX2_areFieldsAlike_19 : decode cX2_areFieldsAlike 19 = .ok (.invokevirtual 59, 3) := by decide +kernel
theorem dX2_areFieldsAlike_22 : decode cX2_areFieldsAlike 22 = .ok (.if_icmp .ge 125, 3) := by decide +kernel
theorem dX2_areFieldsAlike_25 : decode cX2_areFieldsAlike 25 = .ok (.aload_n 0, 1) := by decide +kernel
theorem dX2_areFieldsAlike_26 : decode cX2_areFieldsAlike 26 = .ok (.getfield 25, 3) := by decide +kernel
theorem dX2_areFieldsAlike_29 : decode cX2_areFieldsAlike 29 = .ok (.iload_n 3, 1) := by decide +kernel
theorem dX2_areFieldsAlike_30 : decode cX2_areFieldsAlike 30 = .ok (.iload 4, 2) := by decide +kernel
theorem dX2_areFieldsAlike_32 : decode cX2_areFieldsAlike 32 = .ok (.invokevirtual 64, 3) := by decide +kernel
theorem dX2_areFieldsAlike_35 : decode cX2_areFieldsAlike 35 = .ok (.istore 5, 2) := by decide +kernel
theorem dX2_areFieldsAlike_37 : decode cX2_areFieldsAlike 37 = .ok (.iload 5, 2) := by decide +kernel
theorem dX2_areFieldsAlike_39 : decode cX2_areFieldsAlike 39 = .ok (.iconst 3, 1) := by decide +kernel
theorem dX2_areFieldsAlike_40 : decode cX2_areFieldsAlike 40 = .ok (.if_icmp .ne 30, 3) := by decide +kernel
theorem dX2_areFieldsAlike_43 : decode cX2_areFieldsAlike 43 = .ok (.aload_n 0, 1) := by decide +kernel
theorem dX2_areFieldsAlike_44 : decode cX2_areFieldsAlike 44 = .ok (.aload_n 0, 1) := by decide +kernel
theorem dX2_areFieldsAlike_45 : decode cX2_areFieldsAlike 45 = .ok (.getfield 29, 3) := by decide +kernel
theorem dX2_areFieldsAlike_48 : decode cX2_areFieldsAlike 48 = .ok (.iload_n 1, 1) := by decide +kernel
theorem dX2_areFieldsAlike_49 : decode cX2_areFieldsAlike 49 = .ok (.iload 4, 2) := by decide +kernel
theorem dX2_areFieldsAlike_51 : decode cX2_areFieldsAlike 51 = .ok (.invokevirtual 68, 3) := by decide +kernel
theorem dX2_areFieldsAlike_54 : decode cX2_areFieldsAlike 54 = .ok (.aload_n 0, 1) := by decide +kernel
theorem dX2_areFieldsAlike_55 : decode cX2_areFieldsAlike 55 = .ok (.getfield 33, 3) := by decide +kernel
theorem dX2_areFieldsAlike_58 : decode cX2_areFieldsAlike 58 = .ok (.iload_n 2, 1) := by decide +kernel
theorem dX2_areFieldsAlike_59 : decode cX2_areFieldsAlike 59 = .ok (.iload 4, 2) := by decide +kernel
theorem dX2_areFieldsAlike_61 : decode cX2_areFieldsAlike 61 = .ok (.invokevirtual 68, 3) := by decide +kernel
theorem dX2_areFieldsAlike_64 : decode cX2_areFieldsAlike 64 = .ok (.invokevirtual 42, 3) := by decide +kernel
theorem dX2_areFieldsAlike_67 : decode cX2_areFieldsAlike 67 = .ok (.goto 31, 3) := by decide +kernel
theorem dX2_areFieldsAlike_70 : decode cX2_areFieldsAlike 70 = .ok (.aload_n 0, 1) := by decide +kernel
theorem dX2_areFieldsAlike_71 : decode cX2_areFieldsAlike 71 = .ok (.getfield 29, 3) := by decide +kernel
theorem dX2_areFieldsAlike_74 : decode cX2_areFieldsAlike 74 = .ok (.iload_n 1, 1) := by decide +kernel
theorem dX2_areFieldsAlike_75 : decode cX2_areFieldsAlike 75 = .ok (.iload 4, 2) := by decide +kernel
theorem dX2_areFieldsAlike_77 : decode cX2_areFieldsAlike 77 = .ok (.invokevirtual 68, 3) := by decide +kernel
theorem dX2_areFieldsAlike_80 : decode cX2_areFieldsAlike 80 = .ok (.aload_n 0, 1) := by decide +kernel
theorem dX2_areFieldsAlike_81 : decode cX2_areFieldsAlike 81 = .ok (.getfield 33, 3) := by decide +kernel
theorem dX2_areFieldsAlike_84 : decode cX2_areFieldsAlike 84 = .ok (.iload_n 2, 1) := by decide +kernel
theorem dX2_areFieldsAlike_85 : decode cX2_areFieldsAlike 85 = .ok (.iload 4, 2) := by decide +kernel
theorem dX2_areFieldsAlike_87 : decode cX2_areFieldsAlike 87 = .ok (.invokevirtual 68, 3) := by decide +kernel
theorem dX2_areFieldsAlike_90 : decode cX2_areFieldsAlike 90 = .ok (.if_icmp .ne 7, 3) := by decide +kernel
theorem dX2_areFieldsAlike_93 : decode cX2_areFieldsAlike 93 = .ok (.iconst 1, 1) := by decide +kernel
theorem dX2_areFieldsAlike_94 : decode cX2_areFieldsAlike 94 = .ok (.goto 4, 3) := by decide +kernel
theorem dX2_areFieldsAlike_97 : decode cX2_areFieldsAlike 97 = .ok (.iconst 0, 1) := by decide +kernel
theorem dX2_areFieldsAlike_98 : decode cX2_areFieldsAlike 98 = .ok (.istore 6, 2) := by decide +kernel
theorem dX2_areFieldsAlike_100 : decode cX2_areFieldsAlike 100 = .ok (.iload 6, 2) := by decide +kernel
theorem dX2_areFieldsAlike_102 : decode cX2_areFieldsAlike 102 = .ok (.ifCond .eq 37, 3) := by decide +kernel
theorem dX2_areFieldsAlike_105 : decode cX2_areFieldsAlike 105 = .ok (.iload 5, 2) := by decide +kernel
theorem dX2_areFieldsAlike_107 : decode cX2_areFieldsAlike 107 = .ok (.iconst 2, 1) := by decide +kernel
theorem dX2_areFieldsAlike_108 : decode cX2_areFieldsAlike 108 = .ok (.if_icmp .ne 14, 3) := by decide +kernel
theorem dX2_areFieldsAlike_111 : decode cX2_areFieldsAlike 111 = .ok (.aload_n 0, 1) := by decide +kernel
theorem dX2_areFieldsAlike_112 : decode cX2_areFieldsAlike 112 = .ok (.iload_n 1, 1) := by decide +kernel
theorem dX2_areFieldsAlike_113 : decode cX2_areFieldsAlike 113 = .ok (.iload_n 2, 1) := by decide +kernel
theorem dX2_areFieldsAlike_114 : decode cX2_areFieldsAlike 114 = .ok (.iload 4, 2) := by decide +kernel
theorem dX2_areFieldsAlike_116 : decode cX2_areFieldsAlike 116 = .ok (.invokevirtual 71, 3) := by decide +kernel
theorem dX2_areFieldsAlike_119 : decode cX2_areFieldsAlike 119 = .ok (.ifCond .eq 20, 3) := by decide +kernel
theorem dX2_areFieldsAlike_122 : decode cX2_areFieldsAlike 122 = .ok (.iload 5, 2) := by decide +kernel
theorem dX2_areFieldsAlike_124 : decode cX2_areFieldsAlike 124 = .ok (.iconst 4, 1) := by decide +kernel
theorem dX2_areFieldsAlike_125 : decode cX2_areFieldsAlike 125 = .ok (.if_icmp .ne 16, 3) := by decide +kernel
theorem dX2_areFieldsAlike_128 : decode cX2_areFieldsAlike 128 = .ok (.aload_n 0, 1) := by decide +kernel
theorem dX2_areFieldsAlike_129 : decode cX2_areFieldsAlike 129 = .ok (.iload_n 1, 1) := by decide +kernel
theorem dX2_areFieldsAlike_130 : decode cX2_areFieldsAlike 130 = .ok (.iload_n 2, 1) := by decide +kernel
theorem dX2_areFieldsAlike_131 : decode cX2_areFieldsAlike 131 = .ok (.iload 4, 2) := by decide +kernel
theorem dX2_areFieldsAlike_133 : decode cX2_areFieldsAlike 133 = .ok (.invokevirtual 75, 3) := by decide +kernel
theorem dX2_areFieldsAlike_136 : decode cX2_areFieldsAlike 136 = .ok (.ifCond .ne 5, 3) := by decide +kernel
theorem dX2_areFieldsAlike_139 : decode cX2_areFieldsAlike 139 = .ok (.iconst 0, 1) := by decide +kernel
theorem dX2_areFieldsAlike_140 : decode cX2_areFieldsAlike 140 = .ok (.ireturn, 1) := by decide +kernel
theorem dX2_areFieldsAlike_141 : decode cX2_areFieldsAlike 141 = .ok (.iinc 4 1, 3) := by decide +kernel
theorem dX2_areFieldsAlike_144 : decode cX2_areFieldsAlike 144 = .ok (.goto (-132), 3) := by decide +kernel
theorem dX2_areFieldsAlike_147 : decode cX2_areFieldsAlike 147 = .ok (.iconst 1, 1) := by decide +kernel
theorem dX2_areFieldsAlike_148 : decode cX2_areFieldsAlike 148 = .ok (.ireturn, 1) := by decide +kernel
theorem dX2_areTextsAlike_0 : decode cX2_areTextsAlike 0 = .ok (.iconst 0, 1) := by decide +kernel
theorem dX2_areTextsAlike_1 : decode cX2_areTextsAlike 1 = .ok (.istore 4, 2) := by decide +kernel
theorem dX2_areTextsAlike_3 : decode cX2_areTextsAlike 3 = .ok (.iload 4, 2) := by decide +kernel
theorem dX2_areTextsAlike_5 : decode cX2_areTextsAlike 5 = .ok (.bipush 20, 2) := by decide +kernel
theorem dX2_areTextsAlike_7 : decode cX2_areTextsAlike 7 = .ok (.if_icmp .ge 50, 3) := by decide +kernel
theorem dX2_areTextsAlike_10 : decode cX2_areTextsAlike 10 = .ok (.iload 4, 2) := by decide +kernel
theorem dX2_areTextsAlike_12 : decode cX2_areTextsAlike 12 = .ok (.aload_n 0, 1) := by decide +kernel
theorem dX2_areTextsAlike_13 : decode cX2_areTextsAlike 13 = .ok (.getfield 29, 3) := by decide +kernel
theorem dX2_areTextsAlike_16 : decode cX2_areTextsAlike 16 = .ok (.iload_n 1, 1) := by decide +kernel
theorem dX2_areTextsAlike_17 : decode cX2_areTextsAlike 17 = .ok (.iload_n 3, 1) := by decide +kernel
theorem dX2_areTextsAlike_18 : decode cX2_areTextsAlike 18 = .ok (.invokevirtual 68, 3) := by decide +kernel
theorem dX2_areTextsAlike_21 : decode cX2_areTextsAlike 21 = .ok (.if_icmp .ge 36, 3) := by decide +kernel
theorem dX2_areTextsAlike_24 : decode cX2_areTextsAlike 24 = .ok (.aload_n 0, 1) := by decide +kernel
theorem dX2_areTextsAlike_25 : decode cX2_areTextsAlike 25 = .ok (.getfield 29, 3) := by decide +kernel
theorem dX2_areTextsAlike_28 : decode cX2_areTextsAlike 28 = .ok (.iload_n 1, 1) := by decide +kernel
theorem dX2_areTextsAlike_29 : decode cX2_areTextsAlike 29 = .ok (.iload_n 3, 1) := by decide +kernel
theorem dX2_areTextsAlike_30 : decode cX2_areTextsAlike 30 = .ok (.iload 4, 2) := by decide +kernel
theorem dX2_areTextsAlike_32 : decode cX2_areTextsAlike 32 = .ok (.invokevirtual 78, 3) := by decide +kernel
theorem dX2_areTextsAlike_35 : decode cX2_areTextsAlike 35 = .ok (.aload_n 0, 1) := by decide +kernel
theorem dX2_areTextsAlike_36 : decode cX2_areTextsAlike 36 = .ok (.getfield 33, 3) := by decide +kernel
theorem dX2_areTextsAlike_39 : decode cX2_areTextsAlike 39 = .ok (.iload_n 2, 1) := by decide +kernel
theorem dX2_areTextsAlike_40 : decode cX2_areTextsAlike 40 = .ok (.iload_n 3, 1) := by decide +kernel
theorem dX2_areTextsAlike_41 : decode cX2_areTextsAlike 41 = .ok (.iload 4, 2) := by decide +kernel
theorem dX2_areTextsAlike_43 : decode cX2_areTextsAlike 43 = .ok (.invokevirtual 78, 3) := by decide +kernel
theorem dX2_areTextsAlike_46 : decode cX2_areTextsAlike 46 = .ok (.if_icmp .eq 5, 3) := by decide +kernel
theorem dX2_areTextsAlike_49 : decode cX2_areTextsAlike 49 = .ok (.iconst 0, 1) := by decide +kernel
theorem dX2_areTextsAlike_50 : decode cX2_areTextsAlike 50 = .ok (.ireturn, 1) := by decide +kernel
theorem dX2_areTextsAlike_51 : decode cX2_areTextsAlike 51 = .ok (.iinc 4 1, 3) := by decide +kernel
theorem dX2_areTextsAlike_54 : decode cX2_areTextsAlike 54 = .ok (.goto (-51), 3) := by decide +kernel
theorem dX2_areTextsAlike_57 : decode cX2_areTextsAlike 57 = .ok (.iconst 1, 1) := by decide +kernel
theorem dX2_areTextsAlike_58 : decode cX2_areTextsAlike 58 = .ok (.ireturn, 1) := by decide +kernel
theorem dX2_areListsAlike_0 : decode cX2_areListsAlike 0 = .ok (.iconst 0, 1) := by decide +kernel
theorem dX2_areListsAlike_1 : decode cX2_areListsAlike 1 = .ok (.istore 4, 2) := by decide +kernel
theorem dX2_areListsAlike_3 : decode cX2_areListsAlike 3 = .ok (.iload 4, 2) := by decide +kernel
theorem dX2_areListsAlike_5 : decode cX2_areListsAlike 5 = .ok (.bipush 8, 2) := by decide +kernel
theorem dX2_areListsAlike_7 : decode cX2_areListsAlike 7 = .ok (.if_icmp .ge 54, 3) := by decide +kernel
theorem dX2_areListsAlike_10 : decode cX2_areListsAlike 10 = .ok (.iload 4, 2) := by decide +kernel
theorem dX2_areListsAlike_12 : decode cX2_areListsAlike 12 = .ok (.aload_n 0, 1) := by decide +kernel
theorem dX2_areListsAlike_13 : decode cX2_areListsAlike 13 = .ok (.getfield 29, 3) := by decide +kernel
theorem dX2_areListsAlike_16 : decode cX2_areListsAlike 16 = .ok (.iload_n 1, 1) := by decide +kernel
theorem dX2_areListsAlike_17 : decode cX2_areListsAlike 17 = .ok (.iload_n 3, 1) := by decide +kernel
theorem dX2_areListsAlike_18 : decode cX2_areListsAlike 18 = .ok (.invokevirtual 68, 3) := by decide +kernel
theorem dX2_areListsAlike_21 : decode cX2_areListsAlike 21 = .ok (.if_icmp .ge 40, 3) := by decide +kernel
theorem dX2_areListsAlike_24 : decode cX2_areListsAlike 24 = .ok (.aload_n 0, 1) := by decide +kernel
theorem dX2_areListsAlike_25 : decode cX2_areListsAlike 25 = .ok (.aload_n 0, 1) := by decide +kernel
theorem dX2_areListsAlike_26 : decode cX2_areListsAlike 26 = .ok (.getfield 29, 3) := by decide +kernel
theorem dX2_areListsAlike_29 : decode cX2_areListsAlike 29 = .ok (.iload_n 1, 1) := by decide +kernel
theorem dX2_areListsAlike_30 : decode cX2_areListsAlike 30 = .ok (.iload_n 3, 1) := by decide +kernel
theorem dX2_areListsAlike_31 : decode cX2_areListsAlike 31 = .ok (.iload 4, 2) := by decide +kernel
theorem dX2_areListsAlike_33 : decode cX2_areListsAlike 33 = .ok (.invokevirtual 78, 3) := by decide +kernel
theorem dX2_areListsAlike_36 : decode cX2_areListsAlike 36 = .ok (.aload_n 0, 1) := by decide +kernel
theorem dX2_areListsAlike_37 : decode cX2_areListsAlike 37 = .ok (.getfield 33, 3) := by decide +kernel
theorem dX2_areListsAlike_40 : decode cX2_areListsAlike 40 = .ok (.iload_n 2, 1) := by decide +kernel
theorem dX2_areListsAlike_41 : decode cX2_areListsAlike 41 = .ok (.iload_n 3, 1) := by decide +kernel
theorem dX2_areListsAlike_42 : decode cX2_areListsAlike 42 = .ok (.iload 4, 2) := by decide +kernel
theorem dX2_areListsAlike_44 : decode cX2_areListsAlike 44 = .ok (.invokevirtual 78, 3) := by decide +kernel
theorem dX2_areListsAlike_47 : decode cX2_areListsAlike 47 = .ok (.invokevirtual 42, 3) := by decide +kernel
theorem dX2_areListsAlike_50 : decode cX2_areListsAlike 50 = .ok (.ifCond .ne 5, 3) := by decide +kernel
theorem dX2_areListsAlike_53 : decode cX2_areListsAlike 53 = .ok (.iconst 0, 1) := by decide +kernel
theorem dX2_areListsAlike_54 : decode cX2_areListsAlike 54 = .ok (.ireturn, 1) := by decide +kernel
theorem dX2_areListsAlike_55 : decode cX2_areListsAlike 55 = .ok (.iinc 4 1, 3) := by decide +kernel
theorem dX2_areListsAlike_58 : decode cX2_areListsAlike 58 = .ok (.goto (-55), 3) := by decide +kernel
theorem dX2_areListsAlike_61 : decode cX2_areListsAlike 61 = .ok (.iconst 1, 1) := by decide +kernel
theorem dX2_areListsAlike_62 : decode cX2_areListsAlike 62 = .ok (.ireturn, 1) := by decide +kernel
theorem dX3_init_0 : decode cX3_init 0 = .ok (.aload_n 0, 1) := by decide +kernel
theorem dX3_init_1 : decode cX3_init 1 = .ok (.invokespecial 3, 3) := by decide +kernel
theorem dX3_init_4 : decode cX3_init 4 = .ok (.aload_n 0, 1) := by decide +kernel
theorem dX3_init_5 : decode cX3_init 5 = .ok (.bipush 30, 2) := by decide +kernel
theorem dX3_init_7 : decode cX3_init 7 = .ok (.newarray .int, 2) := by decide +kernel
theorem dX3_init_9 : decode cX3_init 9 = .ok (.putfield 9, 3) := by decide +kernel
theorem dX3_init_12 : decode cX3_init 12 = .ok (.aload_n 0, 1) := by decide +kernel
theorem dX3_init_13 : decode cX3_init 13 = .ok (.aload_n 1, 1) := by decide +kernel
theorem dX3_init_14 : decode cX3_init 14 = .ok (.putfield 15, 3) := by decide +kernel
theorem dX3_init_17 : decode cX3_init 17 = .ok (.aload_n 0, 1) := by decide +kernel
theorem dX3_init_18 : decode cX3_init 18 = .ok (.aload_n 2, 1) := by decide +kernel
theorem dX3_init_19 : decode cX3_init 19 = .ok (.putfield 19, 3) := by decide +kernel
theorem dX3_init_22 : decode cX3_init 22 = .ok (.aload_n 0, 1) := by decide +kernel
theorem dX3_init_23 : decode cX3_init 23 = .ok (.aload_n 2, 1) := by decide +kernel
theorem dX3_init_24 : decode cX3_init 24 = .ok (.invokevirtual 23, 3) := by decide +kernel
theorem dX3_init_27 : decode cX3_init 27 = .ok (.putfield 29, 3) := by decide +kernel
theorem dX3_init_30 : decode cX3_init 30 = .ok (.aload_n 0, 1) := by decide +kernel
theorem dX3_init_31 : decode cX3_init 31 = .ok (.aload_n 2, 1) := by decide +kernel
theorem dX3_init_32 : decode cX3_init 32 = .ok (.invokevirtual 32, 3) := by decide +kernel
theorem dX3_init_35 : decode cX3_init 35 = .ok (.putfield 35, 3) := by decide +kernel
theorem dX3_init_38 : decode cX3_init 38 = .ok (.aload_n 0, 1) := by decide +kernel
theorem dX3_init_39 : decode cX3_init 39 = .ok (.aload_n 3, 1) := by decide +kernel
theorem dX3_init_40 : decode cX3_init 40 = .ok (.putfield 37, 3) := by decide +kernel
theorem dX3_init_43 : decode cX3_init 43 = .ok (.aload_n 0, 1) := by decide +kernel
theorem dX3_init_44 : decode cX3_init 44 = .ok (.new 41, 3) := by decide +kernel
theorem dX3_init_47 : decode cX3_init 47 = .ok (.dup, 1) := by decide +kernel
theorem dX3_init_48 : decode cX3_init 48 = .ok (.aload_n 2, 1) := by decide +kernel
theorem dX3_init_49 : decode cX3_init 49 = .ok (.invokespecial 43, 3) := by decide +kernel
theorem dX3_init_52 : decode cX3_init 52 = .ok (.putfield 46, 3) := by decide +kernel
theorem dX3_init_55 : decode cX3_init 55 = .ok (.aload_n 0, 1) := by decide +kernel
theorem dX3_init_56 : decode cX3_init 56 = .ok (.aload_n 2, 1) := by decide +kernel
theorem dX3_init_57 : decode cX3_init 57 = .ok (.invokevirtual 50, 3) := by decide +kernel
theorem dX3_init_60 : decode cX3_init 60 = .ok (.newarray .int, 2) := by decide +kernel
theorem dX3_init_62 : decode cX3_init 62 = .ok (.putfield 54, 3) := by decide +kernel
theorem dX3_init_65 : decode cX3_init 65 = .ok (.aload_n 0, 1) := by decide +kernel
theorem dX3_init_66 : decode cX3_init 66 = .ok (.aload_n 2, 1) := by decide +kernel
theorem dX3_init_67 : decode cX3_init 67 = .ok (.invokevirtual 50, 3) := by decide +kernel
theorem dX3_init_70 : decode cX3_init 70 = .ok (.newarray .int, 2) := by decide +kernel
theorem dX3_init_72 : decode cX3_init 72 = .ok (.putfield 57, 3) := by decide +kernel
theorem dX3_init_75 : decode cX3_init 75 = .ok (.aload_n 0, 1) := by decide +kernel
theorem dX3_init_76 : decode cX3_init 76 = .ok (.aload_n 2, 1) := by decide +kernel
theorem dX3_init_77 : decode cX3_init 77 = .ok (.invokevirtual 50, 3) := by decide +kernel
theorem dX3_init_80 : decode cX3_init 80 = .ok (.newarray .int, 2) := by decide +kernel
theorem dX3_init_82 : decode cX3_init 82 = .ok (.putfield 60, 3) := by decide +kernel
theorem dX3_init_85 : decode cX3_init 85 = .ok (.aload_n 0, 1) := by decide +kernel
theorem dX3_init_86 : decode cX3_init 86 = .ok (.aload_n 2, 1) := by decide +kernel
theorem dX3_init_87 : decode cX3_init 87 = .ok (.invokevirtual 50, 3) := by decide +kernel
theorem dX3_init_90 : decode cX3_init 90 = .ok (.newarray .int, 2) := by decide +kernel
theorem dX3_init_92 : decode cX3_init 92 = .ok (.putfield 63, 3) := by decide +kernel
theorem dX3_init_95 : decode cX3_init 95 = .ok (.aload_n 0, 1) := by decide +kernel
theorem dX3_init_96 : decode cX3_init 96 = .ok (.aload_n 2, 1) := by decide +kernel
theorem dX3_init_97 : decode cX3_init 97 = .ok (.invokevirtual 50, 3) := by decide +kernel
theorem dX3_init_100 : decode cX3_init 100 = .ok (.newarray .int, 2) := by decide +kernel
theorem dX3_init_102 : decode cX3_init 102 = .ok (.putfield 66, 3) := by decide +kernel
theorem dX3_init_105 : decode cX3_init 105 = .ok (.return_, 1) := by decide +kernel
theorem dX3_firstWrong_0 : decode cX3_firstWrong 0 = .ok (.aload_n 0, 1) := by decide +kernel
theorem dX3_firstWrong_1 : decode cX3_firstWrong 1 = .ok (.getfield 37, 3) := by decide +kernel
theorem dX3_firstWrong_4 : decode cX3_firstWrong 4 = .ok (.invokevirtual 69, 3) := by decide +kernel
theorem dX3_firstWrong_7 : decode cX3_firstWrong 7 = .ok (.iconst 0, 1) := by decide +kernel
theorem dX3_firstWrong_8 : decode cX3_firstWrong 8 = .ok (.istore_n 1, 1) := by decide +kernel
theorem dX3_firstWrong_9 : decode cX3_firstWrong 9 = .ok (.iload_n 1, 1) := by decide +kernel
theorem dX3_firstWrong_10 : decode cX3_firstWrong 10 = .ok (.aload_n 0, 1) := by decide +kernel
theorem dX3_firstWrong_11 : decode cX3_firstWrong 11 = .ok (.getfield 54, 3) := by decide +kernel
theorem dX3_firstWrong_14 : decode cX3_firstWrong 14 = .ok (.arraylength, 1) := by decide +kernel
theorem dX3_firstWrong_15 : decode cX3_firstWrong 15 = .ok (.if_icmp .ge 27, 3) := by decide +kernel
theorem dX3_firstWrong_18 : decode cX3_firstWrong 18 = .ok (.aload_n 0, 1) := by decide +kernel
theorem dX3_firstWrong_19 : decode cX3_firstWrong 19 = .ok (.iload_n 1, 1) := by decide +kernel
theorem dX3_firstWrong_20 : decode cX3_firstWrong 20 = .ok (.invokevirtual 74, 3) := by decide +kernel
theorem dX3_firstWrong_23 : decode cX3_firstWrong 23 = .ok (.ifCond .eq 11, 3) := by decide +kernel
theorem dX3_firstWrong_26 : decode cX3_firstWrong 26 = .ok (.aload_n 0, 1) := by decide +kernel
theorem dX3_firstWrong_27 : decode cX3_firstWrong 27 = .ok (.iload_n 1, 1) := by decide +kernel
theorem dX3_firstWrong_28 : decode cX3_firstWrong 28 = .ok (.invokevirtual 78, 3) := by decide +kernel
theorem dX3_firstWrong_31 : decode cX3_firstWrong 31 = .ok (.ifCond .ne 5, 3) := by decide +kernel
theorem dX3_firstWrong_34 : decode cX3_firstWrong 34 = .ok (.iload_n 1, 1) := by decide +kernel
theorem dX3_firstWrong_35 : decode cX3_firstWrong 35 = .ok (.ireturn, 1) := by decide +kernel
theorem dX3_firstWrong_36 : decode cX3_firstWrong 36 = .ok (.iinc 1 1, 3) := by decide +kernel
theorem dX3_firstWrong_39 : decode cX3_firstWrong 39 = .ok (.goto (-30), 3) := by decide +kernel
theorem dX3_firstWrong_42 : decode cX3_firstWrong 42 = .ok (.iconst 0, 1) := by decide +kernel
theorem dX3_firstWrong_43 : decode cX3_firstWrong 43 = .ok (.istore_n 1, 1) := by decide +kernel
theorem dX3_firstWrong_44 : decode cX3_firstWrong 44 = .ok (.iload_n 1, 1) := by decide +kernel
theorem dX3_firstWrong_45 : decode cX3_firstWrong 45 = .ok (.aload_n 0, 1) := by decide +kernel
theorem dX3_firstWrong_46 : decode cX3_firstWrong 46 = .ok (.getfield 54, 3) := by decide +kernel
theorem dX3_firstWrong_49 : decode cX3_firstWrong 49 = .ok (.arraylength, 1) := by decide +kernel
theorem dX3_firstWrong_50 : decode cX3_firstWrong 50 = .ok (.if_icmp .ge 29, 3) := by decide +kernel
theorem dX3_firstWrong_53 : decode cX3_firstWrong 53 = .ok (.aload_n 0, 1) := by decide +kernel
theorem dX3_firstWrong_54 : decode cX3_firstWrong 54 = .ok (.getfield 54, 3) := by decide +kernel
theorem dX3_firstWrong_57 : decode cX3_firstWrong 57 = .ok (.iload_n 1, 1) := by decide +kernel
theorem dX3_firstWrong_58 : decode cX3_firstWrong 58 = .ok (.iaload, 1) := by decide +kernel
theorem dX3_firstWrong_59 : decode cX3_firstWrong 59 = .ok (.iconst 4, 1) := by decide +kernel
theorem dX3_firstWrong_60 : decode cX3_firstWrong 60 = .ok (.if_icmp .ne 13, 3) := by decide +kernel
theorem dX3_firstWrong_63 : decode cX3_firstWrong 63 = .ok (.aload_n 0, 1) := by decide +kernel
theorem dX3_firstWrong_64 : decode cX3_firstWrong 64 = .ok (.iload_n 1, 1) := by decide +kernel
theorem dX3_firstWrong_65 : decode cX3_firstWrong 65 = .ok (.invokevirtual 81, 3) := by decide +kernel
theorem dX3_firstWrong_68 : decode cX3_firstWrong 68 = .ok (.ifCond .ne 5, 3) := by decide +kernel
theorem dX3_firstWrong_71 : decode cX3_firstWrong 71 = .ok (.iload_n 1, 1) := by decide +kernel
theorem dX3_firstWrong_72 : decode cX3_firstWrong 72 = .ok (.ireturn, 1) := by decide +kernel
theorem dX3_firstWrong_73 : decode cX3_firstWrong 73 = .ok (.iinc 1 1, 3) := by decide +kernel
theorem dX3_firstWrong_76 : decode cX3_firstWrong 76 = .ok (.goto (-32), 3) := by decide +kernel
theorem dX3_firstWrong_79 : decode cX3_firstWrong 79 = .ok (.iconst (-1), 1) := by decide +kernel
theorem dX3_firstWrong_80 : decode cX3_firstWrong 80 = .ok (.ireturn, 1) := by decide +kernel
theorem dX3_isPlaced_0 : decode cX3_isPlaced 0 = .ok (.aload_n 0, 1) := by decide +kernel
theorem dX3_isPlaced_1 : decode cX3_isPlaced 1 = .ok (.getfield 19, 3) := by decide +kernel
theorem dX3_isPlaced_4 : decode cX3_isPlaced 4 = .ok (.iload_n 1, 1) := by decide +kernel
theorem dX3_isPlaced_5 : decode cX3_isPlaced 5 = .ok (.invokevirtual 84, 3) := by decide +kernel
theorem dX3_isPlaced_8 : decode cX3_isPlaced 8 = .ok (.istore_n 2, 1) := by decide +kernel
theorem dX3_isPlaced_9 : decode cX3_isPlaced 9 = .ok (.iload_n 2, 1) := by decide +kernel
theorem dX3_isPlaced_10 : decode cX3_isPlaced 10 = .ok (.ifCond .lt 8, 3) := by decide +kernel
theorem dX3_isPlaced_13 : decode cX3_isPlaced 13 = .ok (.iload_n 2, 1) := by decide +kernel
theorem dX3_isPlaced_14 : decode cX3_isPlaced 14 = .ok (.iload_n 1, 1) := by decide +kernel
theorem dX3_isPlaced_15 : decode cX3_isPlaced 15 = .ok (.if_icmp .lt 36, 3) := by decide +kernel
theorem dX3_isPlaced_18 : decode cX3_isPlaced 18 = .ok (.aload_n 0, 1) := by decide +kernel
theorem dX3_isPlaced_19 : decode cX3_isPlaced 19 = .ok (.iload_n 1, 1) := by decide +kernel
theorem dX3_isPlaced_20 : decode cX3_isPlaced 20 = .ok (.aload_n 0, 1) := by decide +kernel
theorem dX3_isPlaced_21 : decode cX3_isPlaced 21 = .ok (.getfield 15, 3) := by decide +kernel
theorem dX3_isPlaced_24 : decode cX3_isPlaced 24 = .ok (.aload_n 0, 1) := by decide +kernel
theorem dX3_isPlaced_25 : decode cX3_isPlaced 25 = .ok (.getfield 29, 3) := by decide +kernel
theorem dX3_isPlaced_28 : decode cX3_isPlaced 28 = .ok (.aload_n 0, 1) := by decide +kernel
theorem dX3_isPlaced_29 : decode cX3_isPlaced 29 = .ok (.getfield 19, 3) := by decide +kernel
theorem dX3_isPlaced_32 : decode cX3_isPlaced 32 = .ok (.iload_n 1, 1) := by decide +kernel
theorem dX3_isPlaced_33 : decode cX3_isPlaced 33 = .ok (.invokevirtual 88, 3) := by decide +kernel
theorem dX3_isPlaced_36 : decode cX3_isPlaced 36 = .ok (.aload_n 0, 1) := by decide +kernel
theorem dX3_isPlaced_37 : decode cX3_isPlaced 37 = .ok (.getfield 19, 3) := by decide +kernel
theorem dX3_isPlaced_40 : decode cX3_isPlaced 40 = .ok (.iload_n 1, 1) := by decide +kernel
theorem dX3_isPlaced_41 : decode cX3_isPlaced 41 = .ok (.invokevirtual 91, 3) := by decide +kernel
theorem dX3_isPlaced_44 : decode cX3_isPlaced 44 = .ok (.invokevirtual 94, 3) := by decide +kernel
theorem dX3_isPlaced_47 : decode cX3_isPlaced 47 = .ok (.invokevirtual 100, 3) := by decide +kernel
theorem dX3_isPlaced_50 : decode cX3_isPlaced 50 = .ok (.ireturn, 1) := by decide +kernel
theorem dX3_isPlaced_51 : decode cX3_isPlaced 51 = .ok (.aload_n 0, 1) := by decide +kernel
theorem dX3_isPlaced_52 : decode cX3_isPlaced 52 = .ok (.getfield 54, 3) := by decide +kernel
theorem dX3_isPlaced_55 : decode cX3_isPlaced 55 = .ok (.iload_n 2, 1) := by decide +kernel
theorem dX3_isPlaced_56 : decode cX3_isPlaced 56 = .ok (.iaload, 1) := by decide +kernel
theorem dX3_isPlaced_57 : decode cX3_isPlaced 57 = .ok (.iconst 1, 1) := by decide +kernel
theorem dX3_isPlaced_58 : decode cX3_isPlaced 58 = .ok (.if_icmp .ne 15, 3) := by decide +kernel
theorem dX3_isPlaced_61 : decode cX3_isPlaced 61 = .ok (.aload_n 0, 1) := by decide +kernel
theorem dX3_isPlaced_62 : decode cX3_isPlaced 62 = .ok (.iload_n 1, 1) := by decide +kernel
theorem dX3_isPlaced_63 : decode cX3_isPlaced 63 = .ok (.aload_n 0, 1) := by decide +kernel
theorem dX3_isPlaced_64 : decode cX3_isPlaced 64 = .ok (.getfield 57, 3) := by decide +kernel
theorem dX3_isPlaced_67 : decode cX3_isPlaced 67 = .ok (.iload_n 2, 1) := by decide +kernel
theorem dX3_isPlaced_68 : decode cX3_isPlaced 68 = .ok (.iaload, 1) := by decide +kernel
theorem dX3_isPlaced_69 : decode cX3_isPlaced 69 = .ok (.invokevirtual 104, 3) := by decide +kernel
theorem dX3_isPlaced_72 : decode cX3_isPlaced 72 = .ok (.ireturn, 1) := by decide +kernel
theorem dX3_isPlaced_73 : decode cX3_isPlaced 73 = .ok (.aload_n 0, 1) := by decide +kernel
theorem dX3_isPlaced_74 : decode cX3_isPlaced 74 = .ok (.getfield 54, 3) := by decide +kernel
theorem dX3_isPlaced_77 : decode cX3_isPlaced 77 = .ok (.iload_n 2, 1) := by decide +kernel
theorem dX3_isPlaced_78 : decode cX3_isPlaced 78 = .ok (.iaload, 1) := by decide +kernel
theorem dX3_isPlaced_79 : decode cX3_isPlaced 79 = .ok (.iconst 2, 1) := by decide +kernel
theorem dX3_isPlaced_80 : decode cX3_isPlaced 80 = .ok (.if_icmp .ne 21, 3) := by decide +kernel
theorem dX3_isPlaced_83 : decode cX3_isPlaced 83 = .ok (.aload_n 0, 1) := by decide +kernel
theorem dX3_isPlaced_84 : decode cX3_isPlaced 84 = .ok (.iload_n 1, 1) := by decide +kernel
theorem dX3_isPlaced_85 : decode cX3_isPlaced 85 = .ok (.aload_n 0, 1) := by decide +kernel
theorem dX3_isPlaced_86 : decode cX3_isPlaced 86 = .ok (.getfield 57, 3) := by decide +kernel
theorem dX3_isPlaced_89 : decode cX3_isPlaced 89 = .ok (.iload_n 2, 1) := by decide +kernel
theorem dX3_isPlaced_90 : decode cX3_isPlaced 90 = .ok (.iaload, 1) := by decide +kernel
theorem dX3_isPlaced_91 : decode cX3_isPlaced 91 = .ok (.aload_n 0, 1) := by decide +kernel
theorem dX3_isPlaced_92 : decode cX3_isPlaced 92 = .ok (.getfield 60, 3) := by decide +kernel
theorem dX3_isPlaced_95 : decode cX3_isPlaced 95 = .ok (.iload_n 2, 1) := by decide +kernel
theorem dX3_isPlaced_96 : decode cX3_isPlaced 96 = .ok (.iaload, 1) := by decide +kernel
theorem dX3_isPlaced_97 : decode cX3_isPlaced 97 = .ok (.invokevirtual 107, 3) := by decide +kernel
theorem dX3_isPlaced_100 : decode cX3_isPlaced 100 = .ok (.ireturn, 1) := by decide +kernel
theorem dX3_isPlaced_101 : decode cX3_isPlaced 101 = .ok (.aload_n 0, 1) := by decide +kernel
theorem dX3_isPlaced_102 : decode cX3_isPlaced 102 = .ok (.getfield 54, 3) := by decide +kernel
theorem dX3_isPlaced_105 : decode cX3_isPlaced 105 = .ok (.iload_n 1, 1) := by decide +kernel
theorem dX3_isPlaced_106 : decode cX3_isPlaced 106 = .ok (.iconst 5, 1) := by decide +kernel
theorem dX3_isPlaced_107 : decode cX3_isPlaced 107 = .ok (.iastore, 1) := by decide +kernel
theorem dX3_isPlaced_108 : decode cX3_isPlaced 108 = .ok (.iconst 1, 1) := by decide +kernel
theorem dX3_isPlaced_109 : decode cX3_isPlaced 109 = .ok (.ireturn, 1) := by decide +kernel
theorem dX3_begins_0 : decode cX3_begins 0 = .ok (.iload_n 2, 1) := by decide +kernel
theorem dX3_begins_1 : decode cX3_begins 1 = .ok (.iconst (-1), 1) := by decide +kernel
theorem dX3_begins_2 : decode cX3_begins 2 = .ok (.if_icmp .ne 7, 3) := by decide +kernel
theorem dX3_begins_5 : decode cX3_begins 5 = .ok (.iconst (-1), 1) := by decide +kernel
theorem dX3_begins_6 : decode cX3_begins 6 = .ok (.goto 19, 3) := by decide +kernel
theorem dX3_begins_9 : decode cX3_begins 9 = .ok (.aload_n 0, 1) := by decide +kernel
theorem dX3_begins_10 : decode cX3_begins 10 = .ok (.getfield 37, 3) := by decide +kernel
theorem dX3_begins_13 : decode cX3_begins 13 = .ok (.iload_n 2, 1) := by decide +kernel
theorem dX3_begins_14 : decode cX3_begins 14 = .ok (.aload_n 0, 1) := by decide +kernel
theorem dX3_begins_15 : decode cX3_begins 15 = .ok (.getfield 15, 3) := by decide +kernel
theorem dX3_begins_18 : decode cX3_begins 18 = .ok (.iload_n 2, 1) := by decide +kernel
theorem dX3_begins_19 : decode cX3_begins 19 = .ok (.invokevirtual 111, 3) := by decide +kernel
theorem dX3_begins_22 : decode cX3_begins 22 = .ok (.invokevirtual 114, 3) := by decide +kernel
theorem dX3_begins_25 : decode cX3_begins 25 = .ok (.istore_n 3, 1) := by decide +kernel
theorem dX3_begins_26 : decode cX3_begins 26 = .ok (.iload_n 3, 1) := by decide +kernel
theorem dX3_begins_27 : decode cX3_begins 27 = .ok (.iconst (-1), 1) := by decide +kernel
theorem dX3_begins_28 : decode cX3_begins 28 = .ok (.if_icmp .ne 5, 3) := by decide +kernel
theorem dX3_begins_31 : decode cX3_begins 31 = .ok (.iconst 0, 1) := by decide +kernel
theorem dX3_begins_32 : decode cX3_begins 32 = .ok (.ireturn, 1) := by decide +kernel
theorem dX3_begins_33 : decode cX3_begins 33 = .ok (.aload_n 0, 1) := by decide +kernel
theorem dX3_begins_34 : decode cX3_begins 34 = .ok (.iload_n 1, 1) := by decide +kernel
theorem dX3_begins_35 : decode cX3_begins 35 = .ok (.iconst 1, 1) := by decide +kernel
theorem dX3_begins_36 : decode cX3_begins 36 = .ok (.iload_n 3, 1) := by decide +kernel
theorem dX3_begins_37 : decode cX3_begins 37 = .ok (.iconst (-1), 1) := by decide +kernel
theorem dX3_begins_38 : decode cX3_begins 38 = .ok (.invokevirtual 118, 3) := by decide +kernel
theorem dX3_begins_41 : decode cX3_begins 41 = .ok (.iconst 1, 1) := by decide +kernel
theorem dX3_begins_42 : decode cX3_begins 42 = .ok (.ireturn, 1) := by decide +kernel
theorem dX3_takesRole_0 : decode cX3_takesRole 0 = .ok (.aload_n 0, 1) := by decide +kernel
theorem dX3_takesRole_1 : decode cX3_takesRole 1 = .ok (.getfield 54, 3) := by decide +kernel
theorem dX3_takesRole_4 : decode cX3_takesRole 4 = .ok (.iload_n 1, 1) := by decide +kernel
theorem dX3_takesRole_5 : decode cX3_takesRole 5 = .ok (.iload_n 2, 1) := by decide +kernel
theorem dX3_takesRole_6 : decode cX3_takesRole 6 = .ok (.iastore, 1) := by decide +kernel
theorem dX3_takesRole_7 : decode cX3_takesRole 7 = .ok (.aload_n 0, 1) := by decide +kernel
theorem dX3_takesRole_8 : decode cX3_takesRole 8 = .ok (.getfield 57, 3) := by decide +kernel
theorem dX3_takesRole_11 : decode cX3_takesRole 11 = .ok (.iload_n 1, 1) := by decide +kernel
theorem dX3_takesRole_12 : decode cX3_takesRole 12 = .ok (.iload_n 3, 1) := by decide +kernel
theorem dX3_takesRole_13 : decode cX3_takesRole 13 = .ok (.iastore, 1) := by decide +kernel
theorem dX3_takesRole_14 : decode cX3_takesRole 14 = .ok (.aload_n 0, 1) := by decide +kernel
theorem dX3_takesRole_15 : decode cX3_takesRole 15 = .ok (.getfield 60, 3) := by decide +kernel
theorem dX3_takesRole_18 : decode cX3_takesRole 18 = .ok (.iload_n 1, 1) := by decide +kernel
theorem dX3_takesRole_19 : decode cX3_takesRole 19 = .ok (.iload 4, 2) := by decide +kernel
theorem dX3_takesRole_21 : decode cX3_takesRole 21 = .ok (.iastore, 1) := by decide +kernel
theorem dX3_takesRole_22 : decode cX3_takesRole 22 = .ok (.aload_n 0, 1) := by decide +kernel
theorem dX3_takesRole_23 : decode cX3_takesRole 23 = .ok (.getfield 63, 3) := by decide +kernel
theorem dX3_takesRole_26 : decode cX3_takesRole 26 = .ok (.iload_n 1, 1) := by decide +kernel
theorem dX3_takesRole_27 : decode cX3_takesRole 27 = .ok (.iconst (-1), 1) := by decide +kernel
theorem dX3_takesRole_28 : decode cX3_takesRole 28 = .ok (.iastore, 1) := by decide +kernel
theorem dX3_takesRole_29 : decode cX3_takesRole 29 = .ok (.return_, 1) := by decide +kernel
theorem dX3_isPlacedInObject_0 : decode cX3_isPlacedInObject 0 = .ok (.aload_n 0, 1) := by decide +kernel
theorem dX3_isPlacedInObject_1 : decode cX3_isPlacedInObject 1 = .ok (.getfield 37, 3) := by decide +kernel
theorem dX3_isPlacedInObject_4 : decode cX3_isPlacedInObject 4 = .ok (.iload_n 2, 1) := by decide +kernel
theorem dX3_isPlacedInObject_5 : decode cX3_isPlacedInObject 5 = .ok (.invokevirtual 122, 3) := by decide +kernel
theorem dX3_isPlacedInObject_8 : decode cX3_isPlacedInObject 8 = .ok (.istore_n 3, 1) := by decide +kernel
theorem dX3_isPlacedInObject_9 : decode cX3_isPlacedInObject 9 = .ok (.aload_n 0, 1) := by decide +kernel
theorem dX3_isPlacedInObject_10 : decode cX3_isPlacedInObject 10 = .ok (.getfield 15, 3) := by decide +kernel
theorem dX3_isPlacedInObject_13 : decode cX3_isPlacedInObject 13 = .ok (.iload_n 3, 1) := by decide +kernel
theorem dX3_isPlacedInObject_14 : decode cX3_isPlacedInObject 14 = .ok (.iconst 0, 1) := by decide +kernel
theorem dX3_isPlacedInObject_15 : decode cX3_isPlacedInObject 15 = .ok (.aload_n 0, 1) := by decide +kernel
theorem dX3_isPlacedInObject_16 : decode cX3_isPlacedInObject 16 = .ok (.getfield 29, 3) := by decide +kernel
theorem dX3_isPlacedInObject_19 : decode cX3_isPlacedInObject 19 = .ok (.aload_n 0, 1) := by decide +kernel
theorem dX3_isPlacedInObject_20 : decode cX3_isPlacedInObject 20 = .ok (.getfield 19, 3) := by decide +kernel
theorem dX3_isPlacedInObject_23 : decode cX3_isPlacedInObject 23 = .ok (.iload_n 1, 1) := by decide +kernel
theorem dX3_isPlacedInObject_24 : decode cX3_isPlacedInObject 24 = .ok (.invokevirtual 88, 3) := by decide +kernel
theorem dX3_isPlacedInObject_27 : decode cX3_isPlacedInObject 27 = .ok (.aload_n 0, 1) := by decide +kernel
theorem dX3_isPlacedInObject_28 : decode cX3_isPlacedInObject 28 = .ok (.getfield 19, 3) := by decide +kernel
theorem dX3_isPlacedInObject_31 : decode cX3_isPlacedInObject 31 = .ok (.iload_n 1, 1) := by decide +kernel
theorem dX3_isPlacedInObject_32 : decode cX3_isPlacedInObject 32 = .ok (.invokevirtual 91, 3) := by decide +kernel
theorem dX3_isPlacedInObject_35 : decode cX3_isPlacedInObject 35 = .ok (.invokevirtual 125, 3) := by decide +kernel
theorem dX3_isPlacedInObject_38 : decode cX3_isPlacedInObject 38 = .ok (.istore 4, 2) := by decide +kernel
theorem dX3_isPlacedInObject_40 : decode cX3_isPlacedInObject 40 = .ok (.aload_n 0, 1) := by decide +kernel
theorem dX3_isPlacedInObject_41 : decode cX3_isPlacedInObject 41 = .ok (.getfield 15, 3) := by decide +kernel
theorem dX3_isPlacedInObject_44 : decode cX3_isPlacedInObject 44 = .ok (.iload_n 3, 1) := by decide +kernel
theorem dX3_isPlacedInObject_45 : decode cX3_isPlacedInObject 45 = .ok (.invokevirtual 129, 3) := by decide +kernel
theorem dX3_isPlacedInObject_48 : decode cX3_isPlacedInObject 48 = .ok (.istore 5, 2) := by decide +kernel
theorem dX3_isPlacedInObject_50 : decode cX3_isPlacedInObject 50 = .ok (.iload 4, 2) := by decide +kernel
theorem dX3_isPlacedInObject_52 : decode cX3_isPlacedInObject 52 = .ok (.iconst (-1), 1) := by decide +kernel
theorem dX3_isPlacedInObject_53 : decode cX3_isPlacedInObject 53 = .ok (.if_icmp .ne 18, 3) := by decide +kernel
theorem dX3_isPlacedInObject_56 : decode cX3_isPlacedInObject 56 = .ok (.iload 5, 2) := by decide +kernel
theorem dX3_isPlacedInObject_58 : decode cX3_isPlacedInObject 58 = .ok (.iconst (-1), 1) := by decide +kernel
theorem dX3_isPlacedInObject_59 : decode cX3_isPlacedInObject 59 = .ok (.if_icmp .eq 12, 3) := by decide +kernel
theorem dX3_isPlacedInObject_62 : decode cX3_isPlacedInObject 62 = .ok (.aload_n 0, 1) := by decide +kernel
theorem dX3_isPlacedInObject_63 : decode cX3_isPlacedInObject 63 = .ok (.iload_n 1, 1) := by decide +kernel
theorem dX3_isPlacedInObject_64 : decode cX3_isPlacedInObject 64 = .ok (.iload_n 2, 1) := by decide +kernel
theorem dX3_isPlacedInObject_65 : decode cX3_isPlacedInObject 65 = .ok (.iload 5, 2) := by decide +kernel
theorem dX3_isPlacedInObject_67 : decode cX3_isPlacedInObject 67 = .ok (.invokevirtual 107, 3) := by decide +kernel
theorem dX3_isPlacedInObject_70 : decode cX3_isPlacedInObject 70 = .ok (.ireturn, 1) := by decide +kernel
theorem dX3_isPlacedInObject_71 : decode cX3_isPlacedInObject 71 = .ok (.iload 4, 2) := by decide +kernel
theorem dX3_isPlacedInObject_73 : decode cX3_isPlacedInObject 73 = .ok (.iconst (-1), 1) := by decide +kernel
theorem dX3_isPlacedInObject_74 : decode cX3_isPlacedInObject 74 = .ok (.if_icmp .eq 24, 3) := by decide +kernel
theorem dX3_isPlacedInObject_77 : decode cX3_isPlacedInObject 77 = .ok (.iload 4, 2) := by decide +kernel
theorem dX3_isPlacedInObject_79 : decode cX3_isPlacedInObject 79 = .ok (.iload 5, 2) := by decide +kernel
theorem dX3_isPlacedInObject_81 : decode cX3_isPlacedInObject 81 = .ok (.if_icmp .eq 17, 3) := by decide +kernel
theorem dX3_isPlacedInObject_84 : decode cX3_isPlacedInObject 84 = .ok (.aload_n 0, 1) := by decide +kernel
theorem dX3_isPlacedInObject_85 : decode cX3_isPlacedInObject 85 = .ok (.getfield 9, 3) := by decide +kernel
theorem dX3_isPlacedInObject_88 : decode cX3_isPlacedInObject 88 = .ok (.iload_n 2, 1) := by decide +kernel
theorem dX3_isPlacedInObject_89 : decode cX3_isPlacedInObject 89 = .ok (.iaload, 1) := by decide +kernel
theorem dX3_isPlacedInObject_90 : decode cX3_isPlacedInObject 90 = .ok (.iload 4, 2) := by decide +kernel
theorem dX3_isPlacedInObject_92 : decode cX3_isPlacedInObject 92 = .ok (.ishr, 1) := by decide +kernel
theorem dX3_isPlacedInObject_93 : decode cX3_isPlacedInObject 93 = .ok (.iconst 1, 1) := by decide +kernel
theorem dX3_isPlacedInObject_94 : decode cX3_isPlacedInObject 94 = .ok (.iand, 1) := by decide +kernel
theorem dX3_isPlacedInObject_95 : decode cX3_isPlacedInObject 95 = .ok (.ifCond .eq 5, 3) := by decide +kernel
theorem dX3_isPlacedInObject_98 : decode cX3_isPlacedInObject 98 = .ok (.iconst 0, 1) := by decide +kernel
theorem dX3_isPlacedInObject_99 : decode cX3_isPlacedInObject 99 = .ok (.ireturn, 1) := by decide +kernel
theorem dX3_isPlacedInObject_100 : decode cX3_isPlacedInObject 100 = .ok (.aload_n 0, 1) := by decide +kernel
theorem dX3_isPlacedInObject_101 : decode cX3_isPlacedInObject 101 = .ok (.getfield 9, 3) := by decide +kernel
theorem dX3_isPlacedInObject_104 : decode cX3_isPlacedInObject 104 = .ok (.iload_n 2, 1) := by decide +kernel
theorem dX3_isPlacedInObject_105 : decode cX3_isPlacedInObject 105 = .ok (.dup2, 1) := by decide +kernel
theorem dX3_isPlacedInObject_106 : decode cX3_isPlacedInObject 106 = .ok (.iaload, 1) := by decide +kernel
theorem dX3_isPlacedInObject_107 : decode cX3_isPlacedInObject 107 = .ok (.iconst 1, 1) := by decide +kernel
theorem dX3_isPlacedInObject_108 : decode cX3_isPlacedInObject 108 = .ok (.iload 4, 2) := by decide +kernel
theorem dX3_isPlacedInObject_110 : decode cX3_isPlacedInObject 110 = .ok (.ishl, 1) := by decide +kernel
theorem dX3_isPlacedInObject_111 : decode cX3_isPlacedInObject 111 = .ok (.ior, 1) := by decide +kernel
theorem dX3_isPlacedInObject_112 : decode cX3_isPlacedInObject 112 = .ok (.iastore, 1) := by decide +kernel
theorem dX3_isPlacedInObject_113 : decode cX3_isPlacedInObject 113 = .ok (.aload_n 0, 1) := by decide +kernel
theorem dX3_isPlacedInObject_114 : decode cX3_isPlacedInObject 114 = .ok (.getfield 15, 3) := by decide +kernel
theorem dX3_isPlacedInObject_117 : decode cX3_isPlacedInObject 117 = .ok (.iload_n 3, 1) := by decide +kernel
theorem dX3_isPlacedInObject_118 : decode cX3_isPlacedInObject 118 = .ok (.iload 4, 2) := by decide +kernel
theorem dX3_isPlacedInObject_120 : decode cX3_isPlacedInObject 120 = .ok (.invokevirtual 132, 3) := by decide +kernel
theorem dX3_isPlacedInObject_123 : decode cX3_isPlacedInObject 123 = .ok (.iconst 3, 1) := by decide +kernel
theorem dX3_isPlacedInObject_124 : decode cX3_isPlacedInObject 124 = .ok (.if_icmp .ne 12, 3) := by decide +kernel
theorem dX3_isPlacedInObject_127 : decode cX3_isPlacedInObject 127 = .ok (.aload_n 0, 1) := by decide +kernel
theorem dX3_isPlacedInObject_128 : decode cX3_isPlacedInObject 128 = .ok (.iload_n 1, 1) := by decide +kernel
theorem dX3_isPlacedInObject_129 : decode cX3_isPlacedInObject 129 = .ok (.iload_n 2, 1) := by decide +kernel
theorem dX3_isPlacedInObject_130 : decode cX3_isPlacedInObject 130 = .ok (.iload 4, 2) := by decide +kernel
theorem dX3_isPlacedInObject_132 : decode cX3_isPlacedInObject 132 = .ok (.invokevirtual 135, 3) := by decide +kernel
theorem dX3_isPlacedInObject_135 : decode cX3_isPlacedInObject 135 = .ok (.ireturn, 1) := by decide +kernel
theorem dX3_isPlacedInObject_136 : decode cX3_isPlacedInObject 136 = .ok (.aload_n 0, 1) := by decide +kernel
theorem dX3_isPlacedInObject_137 : decode cX3_isPlacedInObject 137 = .ok (.iload_n 1, 1) := by decide +kernel
theorem dX3_isPlacedInObject_138 : decode cX3_isPlacedInObject 138 = .ok (.aload_n 0, 1) := by decide +kernel
theorem dX3_isPlacedInObject_139 : decode cX3_isPlacedInObject 139 = .ok (.getfield 15, 3) := by decide +kernel
theorem dX3_isPlacedInObject_142 : decode cX3_isPlacedInObject 142 = .ok (.iload_n 3, 1) := by decide +kernel
theorem dX3_isPlacedInObject_143 : decode cX3_isPlacedInObject 143 = .ok (.iload 4, 2) := by decide +kernel
theorem dX3_isPlacedInObject_145 : decode cX3_isPlacedInObject 145 = .ok (.invokevirtual 132, 3) := by decide +kernel
theorem dX3_isPlacedInObject_148 : decode cX3_isPlacedInObject 148 = .ok (.iconst 4, 1) := by decide +kernel
theorem dX3_isPlacedInObject_149 : decode cX3_isPlacedInObject 149 = .ok (.if_icmp .ne 7, 3) := by decide +kernel
theorem dX3_isPlacedInObject_152 : decode cX3_isPlacedInObject 152 = .ok (.iconst 2, 1) := by decide +kernel
theorem dX3_isPlacedInObject_153 : decode cX3_isPlacedInObject 153 = .ok (.goto 4, 3) := by decide +kernel
theorem dX3_isPlacedInObject_156 : decode cX3_isPlacedInObject 156 = .ok (.iconst 3, 1) := by decide +kernel
theorem dX3_isPlacedInObject_157 : decode cX3_isPlacedInObject 157 = .ok (.iload_n 2, 1) := by decide +kernel
theorem dX3_isPlacedInObject_158 : decode cX3_isPlacedInObject 158 = .ok (.iload 4, 2) := by decide +kernel
theorem dX3_isPlacedInObject_160 : decode cX3_isPlacedInObject 160 = .ok (.invokevirtual 118, 3) := by decide +kernel
theorem dX3_isPlacedInObject_163 : decode cX3_isPlacedInObject 163 = .ok (.iconst 1, 1) := by decide +kernel
theorem dX3_isPlacedInObject_164 : decode cX3_isPlacedInObject 164 = .ok (.ireturn, 1) := by decide +kernel
theorem dX3_isPlacedAsTarget_0 : decode cX3_isPlacedAsTarget 0 = .ok (.aload_n 0, 1) := by decide +kernel
theorem dX3_isPlacedAsTarget_1 : decode cX3_isPlacedAsTarget 1 = .ok (.getfield 19, 3) := by decide +kernel
theorem dX3_isPlacedAsTarget_4 : decode cX3_isPlacedAsTarget 4 = .ok (.iload_n 1, 1) := by decide +kernel
theorem dX3_isPlacedAsTarget_5 : decode cX3_isPlacedAsTarget 5 = .ok (.ldc 138, 2) := by decide +kernel
theorem dX3_isPlacedAsTarget_7 : decode cX3_isPlacedAsTarget 7 = .ok (.invokevirtual 140, 3) := by decide +kernel
theorem dX3_isPlacedAsTarget_10 : decode cX3_isPlacedAsTarget 10 = .ok (.iconst (-1), 1) := by decide +kernel
theorem dX3_isPlacedAsTarget_11 : decode cX3_isPlacedAsTarget 11 = .ok (.if_icmp .eq 13, 3) := by decide +kernel
theorem dX3_isPlacedAsTarget_14 : decode cX3_isPlacedAsTarget 14 = .ok (.aload_n 0, 1) := by decide +kernel
theorem dX3_isPlacedAsTarget_15 : decode cX3_isPlacedAsTarget 15 = .ok (.iload_n 1, 1) := by decide +kernel
theorem dX3_isPlacedAsTarget_16 : decode cX3_isPlacedAsTarget 16 = .ok (.iconst 4, 1) := by decide +kernel
theorem dX3_isPlacedAsTarget_17 : decode cX3_isPlacedAsTarget 17 = .ok (.iload_n 2, 1) := by decide +kernel
theorem dX3_isPlacedAsTarget_18 : decode cX3_isPlacedAsTarget 18 = .ok (.iload_n 3, 1) := by decide +kernel
theorem dX3_isPlacedAsTarget_19 : decode cX3_isPlacedAsTarget 19 = .ok (.invokevirtual 118, 3) := by decide +kernel
theorem dX3_isPlacedAsTarget_22 : decode cX3_isPlacedAsTarget 22 = .ok (.iconst 1, 1) := by decide +kernel
theorem dX3_isPlacedAsTarget_23 : decode cX3_isPlacedAsTarget 23 = .ok (.ireturn, 1) := by decide +kernel
theorem dX3_isPlacedAsTarget_24 : decode cX3_isPlacedAsTarget 24 = .ok (.aload_n 0, 1) := by decide +kernel
theorem dX3_isPlacedAsTarget_25 : decode cX3_isPlacedAsTarget 25 = .ok (.getfield 19, 3) := by decide +kernel
theorem dX3_isPlacedAsTarget_28 : decode cX3_isPlacedAsTarget 28 = .ok (.iload_n 1, 1) := by decide +kernel
theorem dX3_isPlacedAsTarget_29 : decode cX3_isPlacedAsTarget 29 = .ok (.ldc 144, 2) := by decide +kernel
theorem dX3_isPlacedAsTarget_31 : decode cX3_isPlacedAsTarget 31 = .ok (.invokevirtual 140, 3) := by decide +kernel
theorem dX3_isPlacedAsTarget_34 : decode cX3_isPlacedAsTarget 34 = .ok (.istore 4, 2) := by decide +kernel
theorem dX3_isPlacedAsTarget_36 : decode cX3_isPlacedAsTarget 36 = .ok (.iload 4, 2) := by decide +kernel
theorem dX3_isPlacedAsTarget_38 : decode cX3_isPlacedAsTarget 38 = .ok (.iconst (-1), 1) := by decide +kernel
theorem dX3_isPlacedAsTarget_39 : decode cX3_isPlacedAsTarget 39 = .ok (.if_icmp .ne 5, 3) := by decide +kernel
theorem dX3_isPlacedAsTarget_42 : decode cX3_isPlacedAsTarget 42 = .ok (.iconst 0, 1) := by decide +kernel
theorem dX3_isPlacedAsTarget_43 : decode cX3_isPlacedAsTarget 43 = .ok (.ireturn, 1) := by decide +kernel
theorem dX3_isPlacedAsTarget_44 : decode cX3_isPlacedAsTarget 44 = .ok (.aload_n 0, 1) := by decide +kernel
theorem dX3_isPlacedAsTarget_45 : decode cX3_isPlacedAsTarget 45 = .ok (.getfield 15, 3) := by decide +kernel
theorem dX3_isPlacedAsTarget_48 : decode cX3_isPlacedAsTarget 48 = .ok (.aload_n 0, 1) := by decide +kernel
theorem dX3_isPlacedAsTarget_49 : decode cX3_isPlacedAsTarget 49 = .ok (.getfield 35, 3) := by decide +kernel
theorem dX3_isPlacedAsTarget_52 : decode cX3_isPlacedAsTarget 52 = .ok (.aload_n 0, 1) := by decide +kernel
theorem dX3_isPlacedAsTarget_53 : decode cX3_isPlacedAsTarget 53 = .ok (.getfield 19, 3) := by decide +kernel
theorem dX3_isPlacedAsTarget_56 : decode cX3_isPlacedAsTarget 56 = .ok (.iload 4, 2) := by decide +kernel
theorem dX3_isPlacedAsTarget_58 : decode cX3_isPlacedAsTarget 58 = .ok (.invokevirtual 146, 3) := by decide +kernel
theorem dX3_isPlacedAsTarget_61 : decode cX3_isPlacedAsTarget 61 = .ok (.aload_n 0, 1) := by decide +kernel
theorem dX3_isPlacedAsTarget_62 : decode cX3_isPlacedAsTarget 62 = .ok (.getfield 19, 3) := by decide +kernel
theorem dX3_isPlacedAsTarget_65 : decode cX3_isPlacedAsTarget 65 = .ok (.iload 4, 2) := by decide +kernel
theorem dX3_isPlacedAsTarget_67 : decode cX3_isPlacedAsTarget 67 = .ok (.invokevirtual 149, 3) := by decide +kernel
theorem dX3_isPlacedAsTarget_70 : decode cX3_isPlacedAsTarget 70 = .ok (.invokevirtual 94, 3) := by decide +kernel
theorem dX3_isPlacedAsTarget_73 : decode cX3_isPlacedAsTarget 73 = .ok (.istore 5, 2) := by decide +kernel
theorem dX3_isPlacedAsTarget_75 : decode cX3_isPlacedAsTarget 75 = .ok (.aload_n 0, 1) := by decide +kernel
theorem dX3_isPlacedAsTarget_76 : decode cX3_isPlacedAsTarget 76 = .ok (.iload_n 1, 1) := by decide +kernel
theorem dX3_isPlacedAsTarget_77 : decode cX3_isPlacedAsTarget 77 = .ok (.iload 5, 2) := by decide +kernel
theorem dX3_isPlacedAsTarget_79 : decode cX3_isPlacedAsTarget 79 = .ok (.invokevirtual 100, 3) := by decide +kernel
theorem dX3_isPlacedAsTarget_82 : decode cX3_isPlacedAsTarget 82 = .ok (.ifCond .ne 5, 3) := by decide +kernel
theorem dX3_isPlacedAsTarget_85 : decode cX3_isPlacedAsTarget 85 = .ok (.iconst 0, 1) := by decide +kernel
theorem dX3_isPlacedAsTarget_86 : decode cX3_isPlacedAsTarget 86 = .ok (.ireturn, 1) := by decide +kernel
theorem dX3_isPlacedAsTarget_87 : decode cX3_isPlacedAsTarget 87 = .ok (.aload_n 0, 1) := by decide +kernel
theorem dX3_isPlacedAsTarget_88 : decode cX3_isPlacedAsTarget 88 = .ok (.getfield 60, 3) := by decide +kernel
theorem dX3_isPlacedAsTarget_91 : decode cX3_isPlacedAsTarget 91 = .ok (.iload_n 1, 1) := by decide +kernel
theorem dX3_isPlacedAsTarget_92 : decode cX3_isPlacedAsTarget 92 = .ok (.iload_n 3, 1) := by decide +kernel
theorem dX3_isPlacedAsTarget_93 : decode cX3_isPlacedAsTarget 93 = .ok (.iastore, 1) := by decide +kernel
theorem dX3_isPlacedAsTarget_94 : decode cX3_isPlacedAsTarget 94 = .ok (.aload_n 0, 1) := by decide +kernel
theorem dX3_isPlacedAsTarget_95 : decode cX3_isPlacedAsTarget 95 = .ok (.getfield 37, 3) := by decide +kernel
theorem dX3_isPlacedAsTarget_98 : decode cX3_isPlacedAsTarget 98 = .ok (.iload_n 2, 1) := by decide +kernel
theorem dX3_isPlacedAsTarget_99 : decode cX3_isPlacedAsTarget 99 = .ok (.iload_n 3, 1) := by decide +kernel
theorem dX3_isPlacedAsTarget_100 : decode cX3_isPlacedAsTarget 100 = .ok (.aload_n 0, 1) := by decide +kernel
theorem dX3_isPlacedAsTarget_101 : decode cX3_isPlacedAsTarget 101 = .ok (.getfield 57, 3) := by decide +kernel
theorem dX3_isPlacedAsTarget_104 : decode cX3_isPlacedAsTarget 104 = .ok (.iload_n 1, 1) := by decide +kernel
theorem dX3_isPlacedAsTarget_105 : decode cX3_isPlacedAsTarget 105 = .ok (.iaload, 1) := by decide +kernel
theorem dX3_isPlacedAsTarget_106 : decode cX3_isPlacedAsTarget 106 = .ok (.invokevirtual 152, 3) := by decide +kernel
theorem dX3_isPlacedAsTarget_109 : decode cX3_isPlacedAsTarget 109 = .ok (.iconst 1, 1) := by decide +kernel
theorem dX3_isPlacedAsTarget_110 : decode cX3_isPlacedAsTarget 110 = .ok (.ireturn, 1) := by decide +kernel
theorem dX3_isPlacedInList_0 : decode cX3_isPlacedInList 0 = .ok (.aload_n 0, 1) := by decide +kernel
theorem dX3_isPlacedInList_1 : decode cX3_isPlacedInList 1 = .ok (.getfield 15, 3) := by decide +kernel
theorem dX3_isPlacedInList_4 : decode cX3_isPlacedInList 4 = .ok (.aload_n 0, 1) := by decide +kernel
theorem dX3_isPlacedInList_5 : decode cX3_isPlacedInList 5 = .ok (.getfield 29, 3) := by decide +kernel
theorem dX3_isPlacedInList_8 : decode cX3_isPlacedInList 8 = .ok (.aload_n 0, 1) := by decide +kernel
theorem dX3_isPlacedInList_9 : decode cX3_isPlacedInList 9 = .ok (.getfield 19, 3) := by decide +kernel
theorem dX3_isPlacedInList_12 : decode cX3_isPlacedInList 12 = .ok (.iload_n 1, 1) := by decide +kernel
theorem dX3_isPlacedInList_13 : decode cX3_isPlacedInList 13 = .ok (.invokevirtual 88, 3) := by decide +kernel
theorem dX3_isPlacedInList_16 : decode cX3_isPlacedInList 16 = .ok (.aload_n 0, 1) := by decide +kernel
theorem dX3_isPlacedInList_17 : decode cX3_isPlacedInList 17 = .ok (.getfield 19, 3) := by decide +kernel
theorem dX3_isPlacedInList_20 : decode cX3_isPlacedInList 20 = .ok (.iload_n 1, 1) := by decide +kernel
theorem dX3_isPlacedInList_21 : decode cX3_isPlacedInList 21 = .ok (.invokevirtual 91, 3) := by decide +kernel
theorem dX3_isPlacedInList_24 : decode cX3_isPlacedInList 24 = .ok (.invokevirtual 94, 3) := by decide +kernel
theorem dX3_isPlacedInList_27 : decode cX3_isPlacedInList 27 = .ok (.istore 4, 2) := by decide +kernel
theorem dX3_isPlacedInList_29 : decode cX3_isPlacedInList 29 = .ok (.iload 4, 2) := by decide +kernel
theorem dX3_isPlacedInList_31 : decode cX3_isPlacedInList 31 = .ok (.iconst (-1), 1) := by decide +kernel
theorem dX3_isPlacedInList_32 : decode cX3_isPlacedInList 32 = .ok (.if_icmp .ne 7, 3) := by decide +kernel
theorem dX3_isPlacedInList_35 : decode cX3_isPlacedInList 35 = .ok (.iconst (-1), 1) := by decide +kernel
theorem dX3_isPlacedInList_36 : decode cX3_isPlacedInList 36 = .ok (.goto 14, 3) := by decide +kernel
theorem dX3_isPlacedInList_39 : decode cX3_isPlacedInList 39 = .ok (.aload_n 0, 1) := by decide +kernel
theorem dX3_isPlacedInList_40 : decode cX3_isPlacedInList 40 = .ok (.getfield 37, 3) := by decide +kernel
theorem dX3_isPlacedInList_43 : decode cX3_isPlacedInList 43 = .ok (.iload_n 2, 1) := by decide +kernel
theorem dX3_isPlacedInList_44 : decode cX3_isPlacedInList 44 = .ok (.iload_n 3, 1) := by decide +kernel
theorem dX3_isPlacedInList_45 : decode cX3_isPlacedInList 45 = .ok (.bipush (-2), 2) := by decide +kernel
theorem dX3_isPlacedInList_47 : decode cX3_isPlacedInList 47 = .ok (.invokevirtual 156, 3) := by decide +kernel
theorem dX3_isPlacedInList_50 : decode cX3_isPlacedInList 50 = .ok (.istore 5, 2) := by decide +kernel
theorem dX3_isPlacedInList_52 : decode cX3_isPlacedInList 52 = .ok (.iload 5, 2) := by decide +kernel
theorem dX3_isPlacedInList_54 : decode cX3_isPlacedInList 54 = .ok (.iconst (-1), 1) := by decide +kernel
theorem dX3_isPlacedInList_55 : decode cX3_isPlacedInList 55 = .ok (.if_icmp .ne 5, 3) := by decide +kernel
theorem dX3_isPlacedInList_58 : decode cX3_isPlacedInList 58 = .ok (.iconst 0, 1) := by decide +kernel
theorem dX3_isPlacedInList_59 : decode cX3_isPlacedInList 59 = .ok (.ireturn, 1) := by decide +kernel
theorem dX3_isPlacedInList_60 : decode cX3_isPlacedInList 60 = .ok (.aload_n 0, 1) := by decide +kernel
theorem dX3_isPlacedInList_61 : decode cX3_isPlacedInList 61 = .ok (.getfield 19, 3) := by decide +kernel
theorem dX3_isPlacedInList_64 : decode cX3_isPlacedInList 64 = .ok (.iload_n 1, 1) := by decide +kernel
theorem dX3_isPlacedInList_65 : decode cX3_isPlacedInList 65 = .ok (.ldc 138, 2) := by decide +kernel
theorem dX3_isPlacedInList_67 : decode cX3_isPlacedInList 67 = .ok (.invokevirtual 140, 3) := by decide +kernel
theorem dX3_isPlacedInList_70 : decode cX3_isPlacedInList 70 = .ok (.iconst (-1), 1) := by decide +kernel
theorem dX3_isPlacedInList_71 : decode cX3_isPlacedInList 71 = .ok (.if_icmp .eq 23, 3) := by decide +kernel
theorem dX3_isPlacedInList_74 : decode cX3_isPlacedInList 74 = .ok (.aload_n 0, 1) := by decide +kernel
theorem dX3_isPlacedInList_75 : decode cX3_isPlacedInList 75 = .ok (.iload_n 1, 1) := by decide +kernel
theorem dX3_isPlacedInList_76 : decode cX3_isPlacedInList 76 = .ok (.iconst 4, 1) := by decide +kernel
theorem dX3_isPlacedInList_77 : decode cX3_isPlacedInList 77 = .ok (.iload_n 2, 1) := by decide +kernel
theorem dX3_isPlacedInList_78 : decode cX3_isPlacedInList 78 = .ok (.iload_n 3, 1) := by decide +kernel
theorem dX3_isPlacedInList_79 : decode cX3_isPlacedInList 79 = .ok (.invokevirtual 118, 3) := by decide +kernel
theorem dX3_isPlacedInList_82 : decode cX3_isPlacedInList 82 = .ok (.aload_n 0, 1) := by decide +kernel
theorem dX3_isPlacedInList_83 : decode cX3_isPlacedInList 83 = .ok (.getfield 63, 3) := by decide +kernel
theorem dX3_isPlacedInList_86 : decode cX3_isPlacedInList 86 = .ok (.iload_n 1, 1) := by decide +kernel
theorem dX3_isPlacedInList_87 : decode cX3_isPlacedInList 87 = .ok (.iload 5, 2) := by decide +kernel
theorem dX3_isPlacedInList_89 : decode cX3_isPlacedInList 89 = .ok (.iconst 1, 1) := by decide +kernel
theorem dX3_isPlacedInList_90 : decode cX3_isPlacedInList 90 = .ok (.isub, 1) := by decide +kernel
theorem dX3_isPlacedInList_91 : decode cX3_isPlacedInList 91 = .ok (.iastore, 1) := by decide +kernel
theorem dX3_isPlacedInList_92 : decode cX3_isPlacedInList 92 = .ok (.iconst 1, 1) := by decide +kernel
theorem dX3_isPlacedInList_93 : decode cX3_isPlacedInList 93 = .ok (.ireturn, 1) := by decide +kernel
theorem dX3_isPlacedInList_94 : decode cX3_isPlacedInList 94 = .ok (.aload_n 0, 1) := by decide +kernel
theorem dX3_isPlacedInList_95 : decode cX3_isPlacedInList 95 = .ok (.iload_n 1, 1) := by decide +kernel
theorem dX3_isPlacedInList_96 : decode cX3_isPlacedInList 96 = .ok (.iload 4, 2) := by decide +kernel
theorem dX3_isPlacedInList_98 : decode cX3_isPlacedInList 98 = .ok (.invokevirtual 100, 3) := by decide +kernel
theorem dX3_isPlacedInList_101 : decode cX3_isPlacedInList 101 = .ok (.ifCond .ne 5, 3) := by decide +kernel
theorem dX3_isPlacedInList_104 : decode cX3_isPlacedInList 104 = .ok (.iconst 0, 1) := by decide +kernel
theorem dX3_isPlacedInList_105 : decode cX3_isPlacedInList 105 = .ok (.ireturn, 1) := by decide +kernel
theorem dX3_isPlacedInList_106 : decode cX3_isPlacedInList 106 = .ok (.aload_n 0, 1) := by decide +kernel
theorem dX3_isPlacedInList_107 : decode cX3_isPlacedInList 107 = .ok (.getfield 37, 3) := by decide +kernel
theorem dX3_isPlacedInList_110 : decode cX3_isPlacedInList 110 = .ok (.iload_n 2, 1) := by decide +kernel
theorem dX3_isPlacedInList_111 : decode cX3_isPlacedInList 111 = .ok (.iload_n 3, 1) := by decide +kernel
theorem dX3_isPlacedInList_112 : decode cX3_isPlacedInList 112 = .ok (.iload 5, 2) := by decide +kernel
theorem dX3_isPlacedInList_114 : decode cX3_isPlacedInList 114 = .ok (.iconst 1, 1) := by decide +kernel
theorem dX3_isPlacedInList_115 : decode cX3_isPlacedInList 115 = .ok (.isub, 1) := by decide +kernel
theorem dX3_isPlacedInList_116 : decode cX3_isPlacedInList 116 = .ok (.aload_n 0, 1) := by decide +kernel
theorem dX3_isPlacedInList_117 : decode cX3_isPlacedInList 117 = .ok (.getfield 57, 3) := by decide +kernel
theorem dX3_isPlacedInList_120 : decode cX3_isPlacedInList 120 = .ok (.iload_n 1, 1) := by decide +kernel
theorem dX3_isPlacedInList_121 : decode cX3_isPlacedInList 121 = .ok (.iaload, 1) := by decide +kernel
theorem dX3_isPlacedInList_122 : decode cX3_isPlacedInList 122 = .ok (.invokevirtual 160, 3) := by decide +kernel
theorem dX3_isPlacedInList_125 : decode cX3_isPlacedInList 125 = .ok (.iconst 1, 1) := by decide +kernel
theorem dX3_isPlacedInList_126 : decode cX3_isPlacedInList 126 = .ok (.ireturn, 1) := by decide +kernel
theorem dX3_isSound_0 : decode cX3_isSound 0 = .ok (.aload_n 0, 1) := by decide +kernel
theorem dX3_isSound_1 : decode cX3_isSound 1 = .ok (.getfield 54, 3) := by decide +kernel
theorem dX3_isSound_4 : decode cX3_isSound 4 = .ok (.iload_n 1, 1) := by decide +kernel
theorem dX3_isSound_5 : decode cX3_isSound 5 = .ok (.iaload, 1) := by decide +kernel
theorem dX3_isSound_6 : decode cX3_isSound 6 = .ok (.tableswitch 142 1 3 #[26, 51, 79], 26) := by decide +kernel
theorem dX3_isSound_32 : decode cX3_isSound 32 = .ok (.aload_n 0, 1) := by decide +kernel
theorem dX3_isSound_33 : decode cX3_isSound 33 = .ok (.getfield 19, 3) := by decide +kernel
theorem dX3_isSound_36 : decode cX3_isSound 36 = .ok (.iload_n 1, 1) := by decide +kernel
theorem dX3_isSound_37 : decode cX3_isSound 37 = .ok (.invokevirtual 163, 3) := by decide +kernel
theorem dX3_isSound_40 : decode cX3_isSound 40 = .ok (.ifCond .ne 15, 3) := by decide +kernel
theorem dX3_isSound_43 : decode cX3_isSound 43 = .ok (.aload_n 0, 1) := by decide +kernel
theorem dX3_isSound_44 : decode cX3_isSound 44 = .ok (.iload_n 1, 1) := by decide +kernel
theorem dX3_isSound_45 : decode cX3_isSound 45 = .ok (.invokevirtual 166, 3) := by decide +kernel
theorem dX3_isSound_48 : decode cX3_isSound 48 = .ok (.ifCond .eq 7, 3) := by decide +kernel
theorem dX3_isSound_51 : decode cX3_isSound 51 = .ok (.iconst 1, 1) := by decide +kernel
theorem dX3_isSound_52 : decode cX3_isSound 52 = .ok (.goto 4, 3) := by decide +kernel
theorem dX3_isSound_55 : decode cX3_isSound 55 = .ok (.iconst 0, 1) := by decide +kernel
theorem dX3_isSound_56 : decode cX3_isSound 56 = .ok (.ireturn, 1) := by decide +kernel
theorem dX3_isSound_57 : decode cX3_isSound 57 = .ok (.aload_n 0, 1) := by decide +kernel
theorem dX3_isSound_58 : decode cX3_isSound 58 = .ok (.getfield 19, 3) := by decide +kernel
theorem dX3_isSound_61 : decode cX3_isSound 61 = .ok (.iload_n 1, 1) := by decide +kernel
theorem dX3_isSound_62 : decode cX3_isSound 62 = .ok (.invokevirtual 163, 3) := by decide +kernel
theorem dX3_isSound_65 : decode cX3_isSound 65 = .ok (.ifCond .ne 18, 3) := by decide +kernel
theorem dX3_isSound_68 : decode cX3_isSound 68 = .ok (.aload_n 0, 1) := by decide +kernel
theorem dX3_isSound_69 : decode cX3_isSound 69 = .ok (.getfield 19, 3) := by decide +kernel
theorem dX3_isSound_72 : decode cX3_isSound 72 = .ok (.iload_n 1, 1) := by decide +kernel
theorem dX3_isSound_73 : decode cX3_isSound 73 = .ok (.invokevirtual 169, 3) := by decide +kernel
theorem dX3_isSound_76 : decode cX3_isSound 76 = .ok (.ifCond .ne 7, 3) := by decide +kernel
theorem dX3_isSound_79 : decode cX3_isSound 79 = .ok (.iconst 1, 1) := by decide +kernel
theorem dX3_isSound_80 : decode cX3_isSound 80 = .ok (.goto 4, 3) := by decide +kernel
theorem dX3_isSound_83 : decode cX3_isSound 83 = .ok (.iconst 0, 1) := by decide +kernel
theorem dX3_isSound_84 : decode cX3_isSound 84 = .ok (.ireturn, 1) := by decide +kernel
theorem dX3_isSound_85 : decode cX3_isSound 85 = .ok (.aload_n 0, 1) := by decide +kernel
theorem dX3_isSound_86 : decode cX3_isSound 86 = .ok (.getfield 19, 3) := by decide +kernel
theorem dX3_isSound_89 : decode cX3_isSound 89 = .ok (.iload_n 1, 1) := by decide +kernel
theorem dX3_isSound_90 : decode cX3_isSound 90 = .ok (.invokevirtual 169, 3) := by decide +kernel
theorem dX3_isSound_93 : decode cX3_isSound 93 = .ok (.ifCond .ne 53, 3) := by decide +kernel
theorem dX3_isSound_96 : decode cX3_isSound 96 = .ok (.aload_n 0, 1) := by decide +kernel
theorem dX3_isSound_97 : decode cX3_isSound 97 = .ok (.getfield 19, 3) := by decide +kernel
theorem dX3_isSound_100 : decode cX3_isSound 100 = .ok (.iload_n 1, 1) := by decide +kernel
theorem dX3_isSound_101 : decode cX3_isSound 101 = .ok (.invokevirtual 172, 3) := by decide +kernel
theorem dX3_isSound_104 : decode cX3_isSound 104 = .ok (.ifCond .ne 42, 3) := by decide +kernel
theorem dX3_isSound_107 : decode cX3_isSound 107 = .ok (.aload_n 0, 1) := by decide +kernel
theorem dX3_isSound_108 : decode cX3_isSound 108 = .ok (.aload_n 0, 1) := by decide +kernel
theorem dX3_isSound_109 : decode cX3_isSound 109 = .ok (.getfield 57, 3) := by decide +kernel
theorem dX3_isSound_112 : decode cX3_isSound 112 = .ok (.iload_n 1, 1) := by decide +kernel
theorem dX3_isSound_113 : decode cX3_isSound 113 = .ok (.iaload, 1) := by decide +kernel
theorem dX3_isSound_114 : decode cX3_isSound 114 = .ok (.aload_n 0, 1) := by decide +kernel
theorem dX3_isSound_115 : decode cX3_isSound 115 = .ok (.getfield 60, 3) := by decide +kernel
theorem dX3_isSound_118 : decode cX3_isSound 118 = .ok (.iload_n 1, 1) := by decide +kernel
theorem dX3_isSound_119 : decode cX3_isSound 119 = .ok (.iaload, 1) := by decide +kernel
theorem dX3_isSound_120 : decode cX3_isSound 120 = .ok (.aload_n 0, 1) := by decide +kernel
theorem dX3_isSound_121 : decode cX3_isSound 121 = .ok (.getfield 19, 3) := by decide +kernel
theorem dX3_isSound_124 : decode cX3_isSound 124 = .ok (.iload_n 1, 1) := by decide +kernel
theorem dX3_isSound_125 : decode cX3_isSound 125 = .ok (.invokevirtual 175, 3) := by decide +kernel
theorem dX3_isSound_128 : decode cX3_isSound 128 = .ok (.aload_n 0, 1) := by decide +kernel
theorem dX3_isSound_129 : decode cX3_isSound 129 = .ok (.getfield 19, 3) := by decide +kernel
theorem dX3_isSound_132 : decode cX3_isSound 132 = .ok (.iload_n 1, 1) := by decide +kernel
theorem dX3_isSound_133 : decode cX3_isSound 133 = .ok (.invokevirtual 178, 3) := by decide +kernel
theorem dX3_isSound_136 : decode cX3_isSound 136 = .ok (.invokevirtual 181, 3) := by decide +kernel
theorem dX3_isSound_139 : decode cX3_isSound 139 = .ok (.ifCond .eq 7, 3) := by decide +kernel
theorem dX3_isSound_142 : decode cX3_isSound 142 = .ok (.iconst 1, 1) := by decide +kernel
theorem dX3_isSound_143 : decode cX3_isSound 143 = .ok (.goto 4, 3) := by decide +kernel
theorem dX3_isSound_146 : decode cX3_isSound 146 = .ok (.iconst 0, 1) := by decide +kernel
theorem dX3_isSound_147 : decode cX3_isSound 147 = .ok (.ireturn, 1) := by decide +kernel
theorem dX3_isSound_148 : decode cX3_isSound 148 = .ok (.iconst 1, 1) := by decide +kernel
theorem dX3_isSound_149 : decode cX3_isSound 149 = .ok (.ireturn, 1) := by decide +kernel
theorem dX3_areAttributesSound_0 : decode cX3_areAttributesSound 0 = .ok (.aload_n 0, 1) := by decide +kernel
theorem dX3_areAttributesSound_1 : decode cX3_areAttributesSound 1 = .ok (.getfield 19, 3) := by decide +kernel
theorem dX3_areAttributesSound_4 : decode cX3_areAttributesSound 4 = .ok (.iload_n 1, 1) := by decide +kernel
theorem dX3_areAttributesSound_5 : decode cX3_areAttributesSound 5 = .ok (.invokevirtual 185, 3) := by decide +kernel
theorem dX3_areAttributesSound_8 : decode cX3_areAttributesSound 8 = .ok (.istore_n 2, 1) := by decide +kernel
theorem dX3_areAttributesSound_9 : decode cX3_areAttributesSound 9 = .ok (.iconst 1, 1) := by decide +kernel
theorem dX3_areAttributesSound_10 : decode cX3_areAttributesSound 10 = .ok (.istore_n 3, 1) := by decide +kernel
theorem dX3_areAttributesSound_11 : decode cX3_areAttributesSound 11 = .ok (.iload_n 2, 1) := by decide +kernel
theorem dX3_areAttributesSound_12 : decode cX3_areAttributesSound 12 = .ok (.istore 4, 2) := by decide +kernel
theorem dX3_areAttributesSound_14 : decode cX3_areAttributesSound 14 = .ok (.iload 4, 2) := by decide +kernel
theorem dX3_areAttributesSound_16 : decode cX3_areAttributesSound 16 = .ok (.iload_n 2, 1) := by decide +kernel
theorem dX3_areAttributesSound_17 : decode cX3_areAttributesSound 17 = .ok (.aload_n 0, 1) := by decide +kernel
theorem dX3_areAttributesSound_18 : decode cX3_areAttributesSound 18 = .ok (.getfield 19, 3) := by decide +kernel
theorem dX3_areAttributesSound_21 : decode cX3_areAttributesSound 21 = .ok (.iload_n 1, 1) := by decide +kernel
theorem dX3_areAttributesSound_22 : decode cX3_areAttributesSound 22 = .ok (.invokevirtual 169, 3) := by decide +kernel
theorem dX3_areAttributesSound_25 : decode cX3_areAttributesSound 25 = .ok (.iadd, 1) := by decide +kernel
theorem dX3_areAttributesSound_26 : decode cX3_areAttributesSound 26 = .ok (.if_icmp .ge 173, 3) := by decide +kernel
theorem dX3_areAttributesSound_29 : decode cX3_areAttributesSound 29 = .ok (.iload_n 3, 1) := by decide +kernel
theorem dX3_areAttributesSound_30 : decode cX3_areAttributesSound 30 = .ok (.ifCond .eq 169, 3) := by decide +kernel
theorem dX3_areAttributesSound_33 : decode cX3_areAttributesSound 33 = .ok (.aload_n 0, 1) := by decide +kernel
theorem dX3_areAttributesSound_34 : decode cX3_areAttributesSound 34 = .ok (.getfield 19, 3) := by decide +kernel
theorem dX3_areAttributesSound_37 : decode cX3_areAttributesSound 37 = .ok (.iload 4, 2) := by decide +kernel
theorem dX3_areAttributesSound_39 : decode cX3_areAttributesSound 39 = .ok (.invokevirtual 188, 3) := by decide +kernel
theorem dX3_areAttributesSound_42 : decode cX3_areAttributesSound 42 = .ok (.istore 5, 2) := by decide +kernel
theorem dX3_areAttributesSound_44 : decode cX3_areAttributesSound 44 = .ok (.aload_n 0, 1) := by decide +kernel
theorem dX3_areAttributesSound_45 : decode cX3_areAttributesSound 45 = .ok (.getfield 19, 3) := by decide +kernel
theorem dX3_areAttributesSound_48 : decode cX3_areAttributesSound 48 = .ok (.iload 4, 2) := by decide +kernel
theorem dX3_areAttributesSound_50 : decode cX3_areAttributesSound 50 = .ok (.invokevirtual 191, 3) := by decide +kernel
theorem dX3_areAttributesSound_53 : decode cX3_areAttributesSound 53 = .ok (.istore 6, 2) := by decide +kernel
theorem dX3_areAttributesSound_55 : decode cX3_areAttributesSound 55 = .ok (.aload_n 0, 1) := by decide +kernel
theorem dX3_areAttributesSound_56 : decode cX3_areAttributesSound 56 = .ok (.getfield 29, 3) := by decide +kernel
theorem dX3_areAttributesSound_59 : decode cX3_areAttributesSound 59 = .ok (.iload 5, 2) := by decide +kernel
theorem dX3_areAttributesSound_61 : decode cX3_areAttributesSound 61 = .ok (.iload 6, 2) := by decide +kernel
theorem dX3_areAttributesSound_63 : decode cX3_areAttributesSound 63 = .ok (.ldc 144, 2) := by decide +kernel
theorem dX3_areAttributesSound_65 : decode cX3_areAttributesSound 65 = .ok (.invokevirtual 194, 3) := by decide +kernel
theorem dX3_areAttributesSound_68 : decode cX3_areAttributesSound 68 = .ok (.ifCond .eq 22, 3) := by decide +kernel
theorem dX3_areAttributesSound_71 : decode cX3_areAttributesSound 71 = .ok (.aload_n 0, 1) := by decide +kernel
theorem dX3_areAttributesSound_72 : decode cX3_areAttributesSound 72 = .ok (.getfield 60, 3) := by decide +kernel
theorem dX3_areAttributesSound_75 : decode cX3_areAttributesSound 75 = .ok (.iload_n 1, 1) := by decide +kernel
theorem dX3_areAttributesSound_76 : decode cX3_areAttributesSound 76 = .ok (.iaload, 1) := by decide +kernel
theorem dX3_areAttributesSound_77 : decode cX3_areAttributesSound 77 = .ok (.iconst (-1), 1) := by decide +kernel
theorem dX3_areAttributesSound_78 : decode cX3_areAttributesSound 78 = .ok (.if_icmp .eq 7, 3) := by decide +kernel
theorem dX3_areAttributesSound_81 : decode cX3_areAttributesSound 81 = .ok (.iconst 1, 1) := by decide +kernel
theorem dX3_areAttributesSound_82 : decode cX3_areAttributesSound 82 = .ok (.goto 4, 3) := by decide +kernel
theorem dX3_areAttributesSound_85 : decode cX3_areAttributesSound 85 = .ok (.iconst 0, 1) := by decide +kernel
theorem dX3_areAttributesSound_86 : decode cX3_areAttributesSound 86 = .ok (.istore_n 3, 1) := by decide +kernel
theorem dX3_areAttributesSound_87 : decode cX3_areAttributesSound 87 = .ok (.goto 106, 3) := by decide +kernel
theorem dX3_areAttributesSound_90 : decode cX3_areAttributesSound 90 = .ok (.aload_n 0, 1) := by decide +kernel
theorem dX3_areAttributesSound_91 : decode cX3_areAttributesSound 91 = .ok (.getfield 29, 3) := by decide +kernel
theorem dX3_areAttributesSound_94 : decode cX3_areAttributesSound 94 = .ok (.iload 5, 2) := by decide +kernel
theorem dX3_areAttributesSound_96 : decode cX3_areAttributesSound 96 = .ok (.iload 6, 2) := by decide +kernel
theorem dX3_areAttributesSound_98 : decode cX3_areAttributesSound 98 = .ok (.ldc 200, 2) := by decide +kernel
theorem dX3_areAttributesSound_100 : decode cX3_areAttributesSound 100 = .ok (.invokevirtual 194, 3) := by decide +kernel
theorem dX3_areAttributesSound_103 : decode cX3_areAttributesSound 103 = .ok (.ifCond .eq 14, 3) := by decide +kernel
theorem dX3_areAttributesSound_106 : decode cX3_areAttributesSound 106 = .ok (.aload_n 0, 1) := by decide +kernel
theorem dX3_areAttributesSound_107 : decode cX3_areAttributesSound 107 = .ok (.iload_n 1, 1) := by decide +kernel
theorem dX3_areAttributesSound_108 : decode cX3_areAttributesSound 108 = .ok (.iload 4, 2) := by decide +kernel
theorem dX3_areAttributesSound_110 : decode cX3_areAttributesSound 110 = .ok (.invokevirtual 202, 3) := by decide +kernel
theorem dX3_areAttributesSound_113 : decode cX3_areAttributesSound 113 = .ok (.istore_n 3, 1) := by decide +kernel
theorem dX3_areAttributesSound_114 : decode cX3_areAttributesSound 114 = .ok (.goto 79, 3) := by decide +kernel
theorem dX3_areAttributesSound_117 : decode cX3_areAttributesSound 117 = .ok (.aload_n 0, 1) := by decide +kernel
theorem dX3_areAttributesSound_118 : decode cX3_areAttributesSound 118 = .ok (.getfield 15, 3) := by decide +kernel
theorem dX3_areAttributesSound_121 : decode cX3_areAttributesSound 121 = .ok (.aload_n 0, 1) := by decide +kernel
theorem dX3_areAttributesSound_122 : decode cX3_areAttributesSound 122 = .ok (.getfield 37, 3) := by decide +kernel
theorem dX3_areAttributesSound_125 : decode cX3_areAttributesSound 125 = .ok (.aload_n 0, 1) := by decide +kernel
theorem dX3_areAttributesSound_126 : decode cX3_areAttributesSound 126 = .ok (.getfield 57, 3) := by decide +kernel
theorem dX3_areAttributesSound_129 : decode cX3_areAttributesSound 129 = .ok (.iload_n 1, 1) := by decide +kernel
theorem dX3_areAttributesSound_130 : decode cX3_areAttributesSound 130 = .ok (.iaload, 1) := by decide +kernel
theorem dX3_areAttributesSound_131 : decode cX3_areAttributesSound 131 = .ok (.invokevirtual 122, 3) := by decide +kernel
theorem dX3_areAttributesSound_134 : decode cX3_areAttributesSound 134 = .ok (.iconst 1, 1) := by decide +kernel
theorem dX3_areAttributesSound_135 : decode cX3_areAttributesSound 135 = .ok (.aload_n 0, 1) := by decide +kernel
theorem dX3_areAttributesSound_136 : decode cX3_areAttributesSound 136 = .ok (.getfield 29, 3) := by decide +kernel
theorem dX3_areAttributesSound_139 : decode cX3_areAttributesSound 139 = .ok (.iload 5, 2) := by decide +kernel
theorem dX3_areAttributesSound_141 : decode cX3_areAttributesSound 141 = .ok (.iload 6, 2) := by decide +kernel
theorem dX3_areAttributesSound_143 : decode cX3_areAttributesSound 143 = .ok (.invokevirtual 125, 3) := by decide +kernel
theorem dX3_areAttributesSound_146 : decode cX3_areAttributesSound 146 = .ok (.istore 7, 2) := by decide +kernel
theorem dX3_areAttributesSound_148 : decode cX3_areAttributesSound 148 = .ok (.iload 7, 2) := by decide +kernel
theorem dX3_areAttributesSound_150 : decode cX3_areAttributesSound 150 = .ok (.iconst (-1), 1) := by decide +kernel
theorem dX3_areAttributesSound_151 : decode cX3_areAttributesSound 151 = .ok (.if_icmp .eq 40, 3) := by decide +kernel
theorem dX3_areAttributesSound_154 : decode cX3_areAttributesSound 154 = .ok (.aload_n 0, 1) := by decide +kernel
theorem dX3_areAttributesSound_155 : decode cX3_areAttributesSound 155 = .ok (.aload_n 0, 1) := by decide +kernel
theorem dX3_areAttributesSound_156 : decode cX3_areAttributesSound 156 = .ok (.getfield 57, 3) := by decide +kernel
theorem dX3_areAttributesSound_159 : decode cX3_areAttributesSound 159 = .ok (.iload_n 1, 1) := by decide +kernel
theorem dX3_areAttributesSound_160 : decode cX3_areAttributesSound 160 = .ok (.iaload, 1) := by decide +kernel
theorem dX3_areAttributesSound_161 : decode cX3_areAttributesSound 161 = .ok (.iload 7, 2) := by decide +kernel
theorem dX3_areAttributesSound_163 : decode cX3_areAttributesSound 163 = .ok (.aload_n 0, 1) := by decide +kernel
theorem dX3_areAttributesSound_164 : decode cX3_areAttributesSound 164 = .ok (.getfield 19, 3) := by decide +kernel
theorem dX3_areAttributesSound_167 : decode cX3_areAttributesSound 167 = .ok (.iload 4, 2) := by decide +kernel
theorem dX3_areAttributesSound_169 : decode cX3_areAttributesSound 169 = .ok (.invokevirtual 146, 3) := by decide +kernel
theorem dX3_areAttributesSound_172 : decode cX3_areAttributesSound 172 = .ok (.aload_n 0, 1) := by decide +kernel
theorem dX3_areAttributesSound_173 : decode cX3_areAttributesSound 173 = .ok (.getfield 19, 3) := by decide +kernel
theorem dX3_areAttributesSound_176 : decode cX3_areAttributesSound 176 = .ok (.iload 4, 2) := by decide +kernel
theorem dX3_areAttributesSound_178 : decode cX3_areAttributesSound 178 = .ok (.invokevirtual 149, 3) := by decide +kernel
theorem dX3_areAttributesSound_181 : decode cX3_areAttributesSound 181 = .ok (.invokevirtual 181, 3) := by decide +kernel
theorem dX3_areAttributesSound_184 : decode cX3_areAttributesSound 184 = .ok (.ifCond .eq 7, 3) := by decide +kernel
theorem dX3_areAttributesSound_187 : decode cX3_areAttributesSound 187 = .ok (.iconst 1, 1) := by decide +kernel
theorem dX3_areAttributesSound_188 : decode cX3_areAttributesSound 188 = .ok (.goto 4, 3) := by decide +kernel
theorem dX3_areAttributesSound_191 : decode cX3_areAttributesSound 191 = .ok (.iconst 0, 1) := by decide +kernel
theorem dX3_areAttributesSound_192 : decode cX3_areAttributesSound 192 = .ok (.istore_n 3, 1) := by decide +kernel
theorem dX3_areAttributesSound_193 : decode cX3_areAttributesSound 193 = .ok (.iinc 4 1, 3) := by decide +kernel
theorem dX3_areAttributesSound_196 : decode cX3_areAttributesSound 196 = .ok (.goto (-182), 3) := by decide +kernel
theorem dX3_areAttributesSound_199 : decode cX3_areAttributesSound 199 = .ok (.iload_n 3, 1) := by decide +kernel
theorem dX3_areAttributesSound_200 : decode cX3_areAttributesSound 200 = .ok (.ireturn, 1) := by decide +kernel
theorem dX3_isIdSound_0 : decode cX3_isIdSound 0 = .ok (.aload_n 0, 1) := by decide +kernel
theorem dX3_isIdSound_1 : decode cX3_isIdSound 1 = .ok (.aload_n 0, 1) := by decide +kernel
theorem dX3_isIdSound_2 : decode cX3_isIdSound 2 = .ok (.getfield 19, 3) := by decide +kernel
theorem dX3_isIdSound_5 : decode cX3_isIdSound 5 = .ok (.iload_n 2, 1) := by decide +kernel
theorem dX3_isIdSound_6 : decode cX3_isIdSound 6 = .ok (.invokevirtual 146, 3) := by decide +kernel
theorem dX3_isIdSound_9 : decode cX3_isIdSound 9 = .ok (.aload_n 0, 1) := by decide +kernel
theorem dX3_isIdSound_10 : decode cX3_isIdSound 10 = .ok (.getfield 19, 3) := by decide +kernel
theorem dX3_isIdSound_13 : decode cX3_isIdSound 13 = .ok (.iload_n 2, 1) := by decide +kernel
theorem dX3_isIdSound_14 : decode cX3_isIdSound 14 = .ok (.invokevirtual 149, 3) := by decide +kernel
theorem dX3_isIdSound_17 : decode cX3_isIdSound 17 = .ok (.invokevirtual 205, 3) := by decide +kernel
theorem dX3_isIdSound_20 : decode cX3_isIdSound 20 = .ok (.istore_n 3, 1) := by decide +kernel
theorem dX3_isIdSound_21 : decode cX3_isIdSound 21 = .ok (.iload_n 3, 1) := by decide +kernel
theorem dX3_isIdSound_22 : decode cX3_isIdSound 22 = .ok (.ifCond .eq 12, 3) := by decide +kernel
theorem dX3_isIdSound_25 : decode cX3_isIdSound 25 = .ok (.aload_n 0, 1) := by decide +kernel
theorem dX3_isIdSound_26 : decode cX3_isIdSound 26 = .ok (.iload_n 3, 1) := by decide +kernel
theorem dX3_isIdSound_27 : decode cX3_isIdSound 27 = .ok (.invokevirtual 208, 3) := by decide +kernel
theorem dX3_isIdSound_30 : decode cX3_isIdSound 30 = .ok (.iconst (-1), 1) := by decide +kernel
theorem dX3_isIdSound_31 : decode cX3_isIdSound 31 = .ok (.if_icmp .eq 5, 3) := by decide +kernel
theorem dX3_isIdSound_34 : decode cX3_isIdSound 34 = .ok (.iconst 0, 1) := by decide +kernel
theorem dX3_isIdSound_35 : decode cX3_isIdSound 35 = .ok (.ireturn, 1) := by decide +kernel
theorem dX3_isIdSound_36 : decode cX3_isIdSound 36 = .ok (.aload_n 0, 1) := by decide +kernel
theorem dX3_isIdSound_37 : decode cX3_isIdSound 37 = .ok (.getfield 66, 3) := by decide +kernel
theorem dX3_isIdSound_40 : decode cX3_isIdSound 40 = .ok (.iload_n 1, 1) := by decide +kernel
theorem dX3_isIdSound_41 : decode cX3_isIdSound 41 = .ok (.iload_n 3, 1) := by decide +kernel
theorem dX3_isIdSound_42 : decode cX3_isIdSound 42 = .ok (.iastore, 1) := by decide +kernel
theorem dX3_isIdSound_43 : decode cX3_isIdSound 43 = .ok (.iconst 1, 1) := by decide +kernel
theorem dX3_isIdSound_44 : decode cX3_isIdSound 44 = .ok (.ireturn, 1) := by decide +kernel
theorem dX3_idAt_0 : decode cX3_idAt 0 = .ok (.iload_n 2, 1) := by decide +kernel
theorem dX3_idAt_1 : decode cX3_idAt 1 = .ok (.iload_n 1, 1) := by decide +kernel
theorem dX3_idAt_2 : decode cX3_idAt 2 = .ok (.isub, 1) := by decide +kernel
theorem dX3_idAt_3 : decode cX3_idAt 3 = .ok (.iconst 1, 1) := by decide +kernel
theorem dX3_idAt_4 : decode cX3_idAt 4 = .ok (.if_icmp .lt 23, 3) := by decide +kernel
theorem dX3_idAt_7 : decode cX3_idAt 7 = .ok (.iload_n 2, 1) := by decide +kernel
theorem dX3_idAt_8 : decode cX3_idAt 8 = .ok (.iload_n 1, 1) := by decide +kernel
theorem dX3_idAt_9 : decode cX3_idAt 9 = .ok (.isub, 1) := by decide +kernel
theorem dX3_idAt_10 : decode cX3_idAt 10 = .ok (.iconst 4, 1) := by decide +kernel
theorem dX3_idAt_11 : decode cX3_idAt 11 = .ok (.if_icmp .gt 16, 3) := by decide +kernel
theorem dX3_idAt_14 : decode cX3_idAt 14 = .ok (.aload_n 0, 1) := by decide +kernel
theorem dX3_idAt_15 : decode cX3_idAt 15 = .ok (.getfield 35, 3) := by decide +kernel
theorem dX3_idAt_18 : decode cX3_idAt 18 = .ok (.iload_n 1, 1) := by decide +kernel
theorem dX3_idAt_19 : decode cX3_idAt 19 = .ok (.invokevirtual 211, 3) := by decide +kernel
theorem dX3_idAt_22 : decode cX3_idAt 22 = .ok (.bipush 48, 2) := by decide +kernel
theorem dX3_idAt_24 : decode cX3_idAt 24 = .ok (.if_icmp .ne 5, 3) := by decide +kernel
theorem dX3_idAt_27 : decode cX3_idAt 27 = .ok (.iconst 0, 1) := by decide +kernel
theorem dX3_idAt_28 : decode cX3_idAt 28 = .ok (.ireturn, 1) := by decide +kernel
theorem dX3_idAt_29 : decode cX3_idAt 29 = .ok (.iconst 0, 1) := by decide +kernel
theorem dX3_idAt_30 : decode cX3_idAt 30 = .ok (.istore_n 3, 1) := by decide +kernel
theorem dX3_idAt_31 : decode cX3_idAt 31 = .ok (.iload_n 1, 1) := by decide +kernel
theorem dX3_idAt_32 : decode cX3_idAt 32 = .ok (.istore 4, 2) := by decide +kernel
theorem dX3_idAt_34 : decode cX3_idAt 34 = .ok (.iload 4, 2) := by decide +kernel
theorem dX3_idAt_36 : decode cX3_idAt 36 = .ok (.iload_n 2, 1) := by decide +kernel
theorem dX3_idAt_37 : decode cX3_idAt 37 = .ok (.if_icmp .ge 44, 3) := by decide +kernel
theorem dX3_idAt_40 : decode cX3_idAt 40 = .ok (.aload_n 0, 1) := by decide +kernel
theorem dX3_idAt_41 : decode cX3_idAt 41 = .ok (.getfield 35, 3) := by decide +kernel
theorem dX3_idAt_44 : decode cX3_idAt 44 = .ok (.iload 4, 2) := by decide +kernel
theorem dX3_idAt_46 : decode cX3_idAt 46 = .ok (.invokevirtual 211, 3) := by decide +kernel
theorem dX3_idAt_49 : decode cX3_idAt 49 = .ok (.invokestatic 214, 3) := by decide +kernel
theorem dX3_idAt_52 : decode cX3_idAt 52 = .ok (.ifCond .ne 5, 3) := by decide +kernel
theorem dX3_idAt_55 : decode cX3_idAt 55 = .ok (.iconst 0, 1) := by decide +kernel
theorem dX3_idAt_56 : decode cX3_idAt 56 = .ok (.ireturn, 1) := by decide +kernel
theorem dX3_idAt_57 : decode cX3_idAt 57 = .ok (.iload_n 3, 1) := by decide +kernel
theorem dX3_idAt_58 : decode cX3_idAt 58 = .ok (.bipush 10, 2) := by decide +kernel
theorem dX3_idAt_60 : decode cX3_idAt 60 = .ok (.imul, 1) := by decide +kernel
theorem dX3_idAt_61 : decode cX3_idAt 61 = .ok (.aload_n 0, 1) := by decide +kernel
theorem dX3_idAt_62 : decode cX3_idAt 62 = .ok (.getfield 35, 3) := by decide +kernel
theorem dX3_idAt_65 : decode cX3_idAt 65 = .ok (.iload 4, 2) := by decide +kernel
theorem dX3_idAt_67 : decode cX3_idAt 67 = .ok (.invokevirtual 211, 3) := by decide +kernel
theorem dX3_idAt_70 : decode cX3_idAt 70 = .ok (.iadd, 1) := by decide +kernel
theorem dX3_idAt_71 : decode cX3_idAt 71 = .ok (.bipush 48, 2) := by decide +kernel
theorem dX3_idAt_73 : decode cX3_idAt 73 = .ok (.isub, 1) := by decide +kernel
theorem dX3_idAt_74 : decode cX3_idAt 74 = .ok (.istore_n 3, 1) := by decide +kernel
theorem dX3_idAt_75 : decode cX3_idAt 75 = .ok (.iinc 4 1, 3) := by decide +kernel
theorem dX3_idAt_78 : decode cX3_idAt 78 = .ok (.goto (-44), 3) := by decide +kernel
theorem dX3_idAt_81 : decode cX3_idAt 81 = .ok (.iload_n 3, 1) := by decide +kernel
theorem dX3_idAt_82 : decode cX3_idAt 82 = .ok (.ireturn, 1) := by decide +kernel
theorem dX3_elementWithId_0 : decode cX3_elementWithId 0 = .ok (.iconst 0, 1) := by decide +kernel
theorem dX3_elementWithId_1 : decode cX3_elementWithId 1 = .ok (.istore_n 2, 1) := by decide +kernel
theorem dX3_elementWithId_2 : decode cX3_elementWithId 2 = .ok (.iload_n 2, 1) := by decide +kernel
theorem dX3_elementWithId_3 : decode cX3_elementWithId 3 = .ok (.aload_n 0, 1) := by decide +kernel
theorem dX3_elementWithId_4 : decode cX3_elementWithId 4 = .ok (.getfield 66, 3) := by decide +kernel
theorem dX3_elementWithId_7 : decode cX3_elementWithId 7 = .ok (.arraylength, 1) := by decide +kernel
theorem dX3_elementWithId_8 : decode cX3_elementWithId 8 = .ok (.if_icmp .ge 25, 3) := by decide +kernel
theorem dX3_elementWithId_11 : decode cX3_elementWithId 11 = .ok (.aload_n 0, 1) := by decide +kernel
theorem dX3_elementWithId_12 : decode cX3_elementWithId 12 = .ok (.getfield 66, 3) := by decide +kernel
theorem dX3_elementWithId_15 : decode cX3_elementWithId 15 = .ok (.iload_n 2, 1) := by decide +kernel
theorem dX3_elementWithId_16 : decode cX3_elementWithId 16 = .ok (.iaload, 1) := by decide +kernel
theorem dX3_elementWithId_17 : decode cX3_elementWithId 17 = .ok (.iload_n 1, 1) := by decide +kernel
theorem dX3_elementWithId_18 : decode cX3_elementWithId 18 = .ok (.if_icmp .ne 9, 3) := by decide +kernel
theorem dX3_elementWithId_21 : decode cX3_elementWithId 21 = .ok (.iload_n 1, 1) := by decide +kernel
theorem dX3_elementWithId_22 : decode cX3_elementWithId 22 = .ok (.ifCond .eq 5, 3) := by decide +kernel
theorem dX3_elementWithId_25 : decode cX3_elementWithId 25 = .ok (.iload_n 2, 1) := by decide +kernel
theorem dX3_elementWithId_26 : decode cX3_elementWithId 26 = .ok (.ireturn, 1) := by decide +kernel
theorem dX3_elementWithId_27 : decode cX3_elementWithId 27 = .ok (.iinc 2 1, 3) := by decide +kernel
theorem dX3_elementWithId_30 : decode cX3_elementWithId 30 = .ok (.goto (-28), 3) := by decide +kernel
theorem dX3_elementWithId_33 : decode cX3_elementWithId 33 = .ok (.iconst (-1), 1) := by decide +kernel
theorem dX3_elementWithId_34 : decode cX3_elementWithId 34 = .ok (.ireturn, 1) := by decide +kernel
theorem dX3_fills_0 : decode cX3_fills 0 = .ok (.aload_n 0, 1) := by decide +kernel
theorem dX3_fills_1 : decode cX3_fills 1 = .ok (.getfield 15, 3) := by decide +kernel
theorem dX3_fills_4 : decode cX3_fills 4 = .ok (.aload_n 0, 1) := by decide +kernel
theorem dX3_fills_5 : decode cX3_fills 5 = .ok (.getfield 37, 3) := by decide +kernel
theorem dX3_fills_8 : decode cX3_fills 8 = .ok (.iload_n 1, 1) := by decide +kernel
theorem dX3_fills_9 : decode cX3_fills 9 = .ok (.invokevirtual 122, 3) := by decide +kernel
theorem dX3_fills_12 : decode cX3_fills 12 = .ok (.iload_n 2, 1) := by decide +kernel
theorem dX3_fills_13 : decode cX3_fills 13 = .ok (.invokevirtual 132, 3) := by decide +kernel
theorem dX3_fills_16 : decode cX3_fills 16 = .ok (.iconst 1, 1) := by decide +kernel
theorem dX3_fills_17 : decode cX3_fills 17 = .ok (.if_icmp .ne 13, 3) := by decide +kernel
theorem dX3_fills_20 : decode cX3_fills 20 = .ok (.aload_n 0, 1) := by decide +kernel
theorem dX3_fills_21 : decode cX3_fills 21 = .ok (.iload_n 1, 1) := by decide +kernel
theorem dX3_fills_22 : decode cX3_fills 22 = .ok (.iload_n 2, 1) := by decide +kernel
theorem dX3_fills_23 : decode cX3_fills 23 = .ok (.iload_n 3, 1) := by decide +kernel
theorem dX3_fills_24 : decode cX3_fills 24 = .ok (.iload 4, 2) := by decide +kernel
theorem dX3_fills_26 : decode cX3_fills 26 = .ok (.invokevirtual 217, 3) := by decide +kernel
theorem dX3_fills_29 : decode cX3_fills 29 = .ok (.ireturn, 1) := by decide +kernel

