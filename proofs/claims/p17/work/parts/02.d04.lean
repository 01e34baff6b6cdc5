theorem dX11_unit_25 : decode cX11_unit 25 = .ok (.ifCond .ne 5, 3) := by decide +kernel
theorem dX11_unit_28 : decode cX11_unit 28 = .ok (.iconst 0, 1) := by decide +kernel
theorem dX11_unit_29 : decode cX11_unit 29 = .ok (.ireturn, 1) := by decide +kernel
theorem dX11_unit_30 : decode cX11_unit 30 = .ok (.aload_n 0, 1) := by decide +kernel
theorem dX11_unit_31 : decode cX11_unit 31 = .ok (.getfield 7, 3) := by decide +kernel
theorem dX11_unit_34 : decode cX11_unit 34 = .ok (.aload_n 0, 1) := by decide +kernel
theorem dX11_unit_35 : decode cX11_unit 35 = .ok (.getfield 171, 3) := by decide +kernel
theorem dX11_unit_38 : decode cX11_unit 38 = .ok (.iload_n 1, 1) := by decide +kernel
theorem dX11_unit_39 : decode cX11_unit 39 = .ok (.iastore, 1) := by decide +kernel
theorem dX11_unit_40 : decode cX11_unit 40 = .ok (.aload_n 0, 1) := by decide +kernel
theorem dX11_unit_41 : decode cX11_unit 41 = .ok (.dup, 1) := by decide +kernel
theorem dX11_unit_42 : decode cX11_unit 42 = .ok (.getfield 171, 3) := by decide +kernel
theorem dX11_unit_45 : decode cX11_unit 45 = .ok (.iconst 1, 1) := by decide +kernel
theorem dX11_unit_46 : decode cX11_unit 46 = .ok (.iadd, 1) := by decide +kernel
theorem dX11_unit_47 : decode cX11_unit 47 = .ok (.putfield 171, 3) := by decide +kernel
theorem dX11_unit_50 : decode cX11_unit 50 = .ok (.iconst 1, 1) := by decide +kernel
theorem dX11_unit_51 : decode cX11_unit 51 = .ok (.ireturn, 1) := by decide +kernel
theorem dX11_signAt_0 : decode cX11_signAt 0 = .ok (.iload_n 1, 1) := by decide +kernel
theorem dX11_signAt_1 : decode cX11_signAt 1 = .ok (.aload_n 0, 1) := by decide +kernel
theorem dX11_signAt_2 : decode cX11_signAt 2 = .ok (.getfield 171, 3) := by decide +kernel
theorem dX11_signAt_5 : decode cX11_signAt 5 = .ok (.if_icmp .ge 12, 3) := by decide +kernel
theorem dX11_signAt_8 : decode cX11_signAt 8 = .ok (.aload_n 0, 1) := by decide +kernel
theorem dX11_signAt_9 : decode cX11_signAt 9 = .ok (.getfield 7, 3) := by decide +kernel
theorem dX11_signAt_12 : decode cX11_signAt 12 = .ok (.iload_n 1, 1) := by decide +kernel
theorem dX11_signAt_13 : decode cX11_signAt 13 = .ok (.iaload, 1) := by decide +kernel
theorem dX11_signAt_14 : decode cX11_signAt 14 = .ok (.goto 4, 3) := by decide +kernel
theorem dX11_signAt_17 : decode cX11_signAt 17 = .ok (.iconst 0, 1) := by decide +kernel
theorem dX11_signAt_18 : decode cX11_signAt 18 = .ok (.ireturn, 1) := by decide +kernel
theorem dX11_nameAt_0 : decode cX11_nameAt 0 = .ok (.iconst 0, 1) := by decide +kernel
theorem dX11_nameAt_1 : decode cX11_nameAt 1 = .ok (.istore_n 3, 1) := by decide +kernel
theorem dX11_nameAt_2 : decode cX11_nameAt 2 = .ok (.aload_n 0, 1) := by decide +kernel
theorem dX11_nameAt_3 : decode cX11_nameAt 3 = .ok (.iload_n 1, 1) := by decide +kernel
theorem dX11_nameAt_4 : decode cX11_nameAt 4 = .ok (.invokevirtual 182, 3) := by decide +kernel
theorem dX11_nameAt_7 : decode cX11_nameAt 7 = .ok (.istore 4, 2) := by decide +kernel
theorem dX11_nameAt_9 : decode cX11_nameAt 9 = .ok (.iload 4, 2) := by decide +kernel
theorem dX11_nameAt_11 : decode cX11_nameAt 11 = .ok (.invokestatic 186, 3) := by decide +kernel
theorem dX11_nameAt_14 : decode cX11_nameAt 14 = .ok (.ifCond .ne 29, 3) := by decide +kernel
theorem dX11_nameAt_17 : decode cX11_nameAt 17 = .ok (.iload 4, 2) := by decide +kernel
theorem dX11_nameAt_19 : decode cX11_nameAt 19 = .ok (.bipush 95, 2) := by decide +kernel
theorem dX11_nameAt_21 : decode cX11_nameAt 21 = .ok (.if_icmp .eq 22, 3) := by decide +kernel
theorem dX11_nameAt_24 : decode cX11_nameAt 24 = .ok (.iload 4, 2) := by decide +kernel
theorem dX11_nameAt_26 : decode cX11_nameAt 26 = .ok (.bipush 36, 2) := by decide +kernel
theorem dX11_nameAt_28 : decode cX11_nameAt 28 = .ok (.if_icmp .eq 15, 3) := by decide +kernel
theorem dX11_nameAt_31 : decode cX11_nameAt 31 = .ok (.iload_n 3, 1) := by decide +kernel
theorem dX11_nameAt_32 : decode cX11_nameAt 32 = .ok (.ifCond .le 48, 3) := by decide +kernel
theorem dX11_nameAt_35 : decode cX11_nameAt 35 = .ok (.iload 4, 2) := by decide +kernel
theorem dX11_nameAt_37 : decode cX11_nameAt 37 = .ok (.invokestatic 189, 3) := by decide +kernel
theorem dX11_nameAt_40 : decode cX11_nameAt 40 = .ok (.ifCond .eq 40, 3) := by decide +kernel
theorem dX11_nameAt_43 : decode cX11_nameAt 43 = .ok (.iload_n 3, 1) := by decide +kernel
theorem dX11_nameAt_44 : decode cX11_nameAt 44 = .ok (.bipush 8, 2) := by decide +kernel
theorem dX11_nameAt_46 : decode cX11_nameAt 46 = .ok (.if_icmp .ne 6, 3) := by decide +kernel
theorem dX11_nameAt_49 : decode cX11_nameAt 49 = .ok (.bipush (-10), 2) := by decide +kernel
theorem dX11_nameAt_51 : decode cX11_nameAt 51 = .ok (.ireturn, 1) := by decide +kernel
theorem dX11_nameAt_52 : decode cX11_nameAt 52 = .ok (.aload_n 0, 1) := by decide +kernel
theorem dX11_nameAt_53 : decode cX11_nameAt 53 = .ok (.getfield 38, 3) := by decide +kernel
theorem dX11_nameAt_56 : decode cX11_nameAt 56 = .ok (.bipush 8, 2) := by decide +kernel
theorem dX11_nameAt_58 : decode cX11_nameAt 58 = .ok (.iload_n 2, 1) := by decide +kernel
theorem dX11_nameAt_59 : decode cX11_nameAt 59 = .ok (.imul, 1) := by decide +kernel
theorem dX11_nameAt_60 : decode cX11_nameAt 60 = .ok (.iload_n 3, 1) := by decide +kernel
theorem dX11_nameAt_61 : decode cX11_nameAt 61 = .ok (.iadd, 1) := by decide +kernel
theorem dX11_nameAt_62 : decode cX11_nameAt 62 = .ok (.iload 4, 2) := by decide +kernel
theorem dX11_nameAt_64 : decode cX11_nameAt 64 = .ok (.iastore, 1) := by decide +kernel
theorem dX11_nameAt_65 : decode cX11_nameAt 65 = .ok (.iinc 3 1, 3) := by decide +kernel
theorem dX11_nameAt_68 : decode cX11_nameAt 68 = .ok (.aload_n 0, 1) := by decide +kernel
theorem dX11_nameAt_69 : decode cX11_nameAt 69 = .ok (.iload_n 1, 1) := by decide +kernel
theorem dX11_nameAt_70 : decode cX11_nameAt 70 = .ok (.iload_n 3, 1) := by decide +kernel
theorem dX11_nameAt_71 : decode cX11_nameAt 71 = .ok (.iadd, 1) := by decide +kernel
theorem dX11_nameAt_72 : decode cX11_nameAt 72 = .ok (.invokevirtual 182, 3) := by decide +kernel
theorem dX11_nameAt_75 : decode cX11_nameAt 75 = .ok (.istore 4, 2) := by decide +kernel
theorem dX11_nameAt_77 : decode cX11_nameAt 77 = .ok (.goto (-68), 3) := by decide +kernel
theorem dX11_nameAt_80 : decode cX11_nameAt 80 = .ok (.aload_n 0, 1) := by decide +kernel
theorem dX11_nameAt_81 : decode cX11_nameAt 81 = .ok (.getfield 35, 3) := by decide +kernel
theorem dX11_nameAt_84 : decode cX11_nameAt 84 = .ok (.iload_n 2, 1) := by decide +kernel
theorem dX11_nameAt_85 : decode cX11_nameAt 85 = .ok (.iload_n 3, 1) := by decide +kernel
theorem dX11_nameAt_86 : decode cX11_nameAt 86 = .ok (.iastore, 1) := by decide +kernel
theorem dX11_nameAt_87 : decode cX11_nameAt 87 = .ok (.iload_n 3, 1) := by decide +kernel
theorem dX11_nameAt_88 : decode cX11_nameAt 88 = .ok (.ifCond .ne 8, 3) := by decide +kernel
theorem dX11_nameAt_91 : decode cX11_nameAt 91 = .ok (.bipush (-2), 2) := by decide +kernel
theorem dX11_nameAt_93 : decode cX11_nameAt 93 = .ok (.goto 4, 3) := by decide +kernel
theorem dX11_nameAt_96 : decode cX11_nameAt 96 = .ok (.iload_n 3, 1) := by decide +kernel
theorem dX11_nameAt_97 : decode cX11_nameAt 97 = .ok (.ireturn, 1) := by decide +kernel
theorem dX11_areAlike_0 : decode cX11_areAlike 0 = .ok (.aload_n 0, 1) := by decide +kernel
theorem dX11_areAlike_1 : decode cX11_areAlike 1 = .ok (.getfield 35, 3) := by decide +kernel
theorem dX11_areAlike_4 : decode cX11_areAlike 4 = .ok (.iload_n 1, 1) := by decide +kernel
theorem dX11_areAlike_5 : decode cX11_areAlike 5 = .ok (.iaload, 1) := by decide +kernel
theorem dX11_areAlike_6 : decode cX11_areAlike 6 = .ok (.aload_n 0, 1) := by decide +kernel
theorem dX11_areAlike_7 : decode cX11_areAlike 7 = .ok (.getfield 35, 3) := by decide +kernel
theorem dX11_areAlike_10 : decode cX11_areAlike 10 = .ok (.iload_n 2, 1) := by decide +kernel
theorem dX11_areAlike_11 : decode cX11_areAlike 11 = .ok (.iaload, 1) := by decide +kernel
theorem dX11_areAlike_12 : decode cX11_areAlike 12 = .ok (.if_icmp .ne 7, 3) := by decide +kernel
theorem dX11_areAlike_15 : decode cX11_areAlike 15 = .ok (.iconst 1, 1) := by decide +kernel
theorem dX11_areAlike_16 : decode cX11_areAlike 16 = .ok (.goto 4, 3) := by decide +kernel
theorem dX11_areAlike_19 : decode cX11_areAlike 19 = .ok (.iconst 0, 1) := by decide +kernel
theorem dX11_areAlike_20 : decode cX11_areAlike 20 = .ok (.istore_n 3, 1) := by decide +kernel
theorem dX11_areAlike_21 : decode cX11_areAlike 21 = .ok (.iconst 0, 1) := by decide +kernel
theorem dX11_areAlike_22 : decode cX11_areAlike 22 = .ok (.istore 4, 2) := by decide +kernel
theorem dX11_areAlike_24 : decode cX11_areAlike 24 = .ok (.iload 4, 2) := by decide +kernel
theorem dX11_areAlike_26 : decode cX11_areAlike 26 = .ok (.aload_n 0, 1) := by decide +kernel
theorem dX11_areAlike_27 : decode cX11_areAlike 27 = .ok (.getfield 35, 3) := by decide +kernel
theorem dX11_areAlike_30 : decode cX11_areAlike 30 = .ok (.iload_n 1, 1) := by decide +kernel
theorem dX11_areAlike_31 : decode cX11_areAlike 31 = .ok (.iaload, 1) := by decide +kernel
theorem dX11_areAlike_32 : decode cX11_areAlike 32 = .ok (.if_icmp .ge 46, 3) := by decide +kernel
theorem dX11_areAlike_35 : decode cX11_areAlike 35 = .ok (.iload_n 3, 1) := by decide +kernel
theorem dX11_areAlike_36 : decode cX11_areAlike 36 = .ok (.ifCond .eq 42, 3) := by decide +kernel
theorem dX11_areAlike_39 : decode cX11_areAlike 39 = .ok (.aload_n 0, 1) := by decide +kernel
theorem dX11_areAlike_40 : decode cX11_areAlike 40 = .ok (.getfield 38, 3) := by decide +kernel
theorem dX11_areAlike_43 : decode cX11_areAlike 43 = .ok (.bipush 8, 2) := by decide +kernel
theorem dX11_areAlike_45 : decode cX11_areAlike 45 = .ok (.iload_n 1, 1) := by decide +kernel
theorem dX11_areAlike_46 : decode cX11_areAlike 46 = .ok (.imul, 1) := by decide +kernel
theorem dX11_areAlike_47 : decode cX11_areAlike 47 = .ok (.iload 4, 2) := by decide +kernel
theorem dX11_areAlike_49 : decode cX11_areAlike 49 = .ok (.iadd, 1) := by decide +kernel
theorem dX11_areAlike_50 : decode cX11_areAlike 50 = .ok (.iaload, 1) := by decide +kernel
theorem dX11_areAlike_51 : decode cX11_areAlike 51 = .ok (.aload_n 0, 1) := by decide +kernel
theorem dX11_areAlike_52 : decode cX11_areAlike 52 = .ok (.getfield 38, 3) := by decide +kernel
theorem dX11_areAlike_55 : decode cX11_areAlike 55 = .ok (.bipush 8, 2) := by decide +kernel
theorem dX11_areAlike_57 : decode cX11_areAlike 57 = .ok (.iload_n 2, 1) := by decide +kernel
theorem dX11_areAlike_58 : decode cX11_areAlike 58 = .ok (.imul, 1) := by decide +kernel
theorem dX11_areAlike_59 : decode cX11_areAlike 59 = .ok (.iload 4, 2) := by decide +kernel
theorem dX11_areAlike_61 : decode cX11_areAlike 61 = .ok (.iadd, 1) := by decide +kernel
theorem dX11_areAlike_62 : decode cX11_areAlike 62 = .ok (.iaload, 1) := by decide +kernel
theorem dX11_areAlike_63 : decode cX11_areAlike 63 = .ok (.if_icmp .ne 7, 3) := by decide +kernel
theorem dX11_areAlike_66 : decode cX11_areAlike 66 = .ok (.iconst 1, 1) := by decide +kernel
theorem dX11_areAlike_67 : decode cX11_areAlike 67 = .ok (.goto 4, 3) := by decide +kernel
theorem dX11_areAlike_70 : decode cX11_areAlike 70 = .ok (.iconst 0, 1) := by decide +kernel
theorem dX11_areAlike_71 : decode cX11_areAlike 71 = .ok (.istore_n 3, 1) := by decide +kernel
theorem dX11_areAlike_72 : decode cX11_areAlike 72 = .ok (.iinc 4 1, 3) := by decide +kernel
theorem dX11_areAlike_75 : decode cX11_areAlike 75 = .ok (.goto (-51), 3) := by decide +kernel
theorem dX11_areAlike_78 : decode cX11_areAlike 78 = .ok (.iload_n 3, 1) := by decide +kernel
theorem dX11_areAlike_79 : decode cX11_areAlike 79 = .ok (.ireturn, 1) := by decide +kernel
theorem dX11_letterOf_0 : decode cX11_letterOf 0 = .ok (.iload_n 0, 1) := by decide +kernel
theorem dX11_letterOf_1 : decode cX11_letterOf 1 = .ok (.ifCond .ne 35, 3) := by decide +kernel
theorem dX11_letterOf_4 : decode cX11_letterOf 4 = .ok (.iload_n 1, 1) := by decide +kernel
theorem dX11_letterOf_5 : decode cX11_letterOf 5 = .ok (.ifCond .ne 8, 3) := by decide +kernel
theorem dX11_letterOf_8 : decode cX11_letterOf 8 = .ok (.bipush 99, 2) := by decide +kernel
theorem dX11_letterOf_10 : decode cX11_letterOf 10 = .ok (.goto 25, 3) := by decide +kernel
theorem dX11_letterOf_13 : decode cX11_letterOf 13 = .ok (.iload_n 1, 1) := by decide +kernel
theorem dX11_letterOf_14 : decode cX11_letterOf 14 = .ok (.iconst 1, 1) := by decide +kernel
theorem dX11_letterOf_15 : decode cX11_letterOf 15 = .ok (.if_icmp .ne 8, 3) := by decide +kernel
theorem dX11_letterOf_18 : decode cX11_letterOf 18 = .ok (.bipush 108, 2) := by decide +kernel
theorem dX11_letterOf_20 : decode cX11_letterOf 20 = .ok (.goto 15, 3) := by decide +kernel
theorem dX11_letterOf_23 : decode cX11_letterOf 23 = .ok (.iload_n 1, 1) := by decide +kernel
theorem dX11_letterOf_24 : decode cX11_letterOf 24 = .ok (.iconst 2, 1) := by decide +kernel
theorem dX11_letterOf_25 : decode cX11_letterOf 25 = .ok (.if_icmp .ne 8, 3) := by decide +kernel
theorem dX11_letterOf_28 : decode cX11_letterOf 28 = .ok (.bipush 97, 2) := by decide +kernel
theorem dX11_letterOf_30 : decode cX11_letterOf 30 = .ok (.goto 5, 3) := by decide +kernel
theorem dX11_letterOf_33 : decode cX11_letterOf 33 = .ok (.bipush 115, 2) := by decide +kernel
theorem dX11_letterOf_35 : decode cX11_letterOf 35 = .ok (.ireturn, 1) := by decide +kernel
theorem dX11_letterOf_36 : decode cX11_letterOf 36 = .ok (.iload_n 1, 1) := by decide +kernel
theorem dX11_letterOf_37 : decode cX11_letterOf 37 = .ok (.ifCond .ne 8, 3) := by decide +kernel
theorem dX11_letterOf_40 : decode cX11_letterOf 40 = .ok (.bipush 105, 2) := by decide +kernel
theorem dX11_letterOf_42 : decode cX11_letterOf 42 = .ok (.goto 5, 3) := by decide +kernel
theorem dX11_letterOf_45 : decode cX11_letterOf 45 = .ok (.bipush 100, 2) := by decide +kernel
theorem dX11_letterOf_47 : decode cX11_letterOf 47 = .ok (.ireturn, 1) := by decide +kernel
theorem dX11_isWord_0 : decode cX11_isWord 0 = .ok (.iload_n 2, 1) := by decide +kernel
theorem dX11_isWord_1 : decode cX11_isWord 1 = .ok (.ifCond .ne 7, 3) := by decide +kernel
theorem dX11_isWord_4 : decode cX11_isWord 4 = .ok (.iconst 5, 1) := by decide +kernel
theorem dX11_isWord_5 : decode cX11_isWord 5 = .ok (.goto 4, 3) := by decide +kernel
theorem dX11_isWord_8 : decode cX11_isWord 8 = .ok (.iconst 2, 1) := by decide +kernel
theorem dX11_isWord_9 : decode cX11_isWord 9 = .ok (.istore_n 3, 1) := by decide +kernel
theorem dX11_isWord_10 : decode cX11_isWord 10 = .ok (.aload_n 0, 1) := by decide +kernel
theorem dX11_isWord_11 : decode cX11_isWord 11 = .ok (.getfield 35, 3) := by decide +kernel
theorem dX11_isWord_14 : decode cX11_isWord 14 = .ok (.iload_n 1, 1) := by decide +kernel
theorem dX11_isWord_15 : decode cX11_isWord 15 = .ok (.iaload, 1) := by decide +kernel
theorem dX11_isWord_16 : decode cX11_isWord 16 = .ok (.iload_n 3, 1) := by decide +kernel
theorem dX11_isWord_17 : decode cX11_isWord 17 = .ok (.if_icmp .ne 7, 3) := by decide +kernel
theorem dX11_isWord_20 : decode cX11_isWord 20 = .ok (.iconst 1, 1) := by decide +kernel
theorem dX11_isWord_21 : decode cX11_isWord 21 = .ok (.goto 4, 3) := by decide +kernel
theorem dX11_isWord_24 : decode cX11_isWord 24 = .ok (.iconst 0, 1) := by decide +kernel
theorem dX11_isWord_25 : decode cX11_isWord 25 = .ok (.istore 4, 2) := by decide +kernel
theorem dX11_isWord_27 : decode cX11_isWord 27 = .ok (.iconst 0, 1) := by decide +kernel
theorem dX11_isWord_28 : decode cX11_isWord 28 = .ok (.istore 5, 2) := by decide +kernel
theorem dX11_isWord_30 : decode cX11_isWord 30 = .ok (.iload 5, 2) := by decide +kernel
theorem dX11_isWord_32 : decode cX11_isWord 32 = .ok (.iload_n 3, 1) := by decide +kernel
theorem dX11_isWord_33 : decode cX11_isWord 33 = .ok (.if_icmp .ge 42, 3) := by decide +kernel
theorem dX11_isWord_36 : decode cX11_isWord 36 = .ok (.iload 4, 2) := by decide +kernel
theorem dX11_isWord_38 : decode cX11_isWord 38 = .ok (.ifCond .eq 37, 3) := by decide +kernel
theorem dX11_isWord_41 : decode cX11_isWord 41 = .ok (.aload_n 0, 1) := by decide +kernel
theorem dX11_isWord_42 : decode cX11_isWord 42 = .ok (.getfield 38, 3) := by decide +kernel
theorem dX11_isWord_45 : decode cX11_isWord 45 = .ok (.bipush 8, 2) := by decide +kernel
theorem dX11_isWord_47 : decode cX11_isWord 47 = .ok (.iload_n 1, 1) := by decide +kernel
theorem dX11_isWord_48 : decode cX11_isWord 48 = .ok (.imul, 1) := by decide +kernel
theorem dX11_isWord_49 : decode cX11_isWord 49 = .ok (.iload 5, 2) := by decide +kernel
theorem dX11_isWord_51 : decode cX11_isWord 51 = .ok (.iadd, 1) := by decide +kernel
theorem dX11_isWord_52 : decode cX11_isWord 52 = .ok (.iaload, 1) := by decide +kernel
theorem dX11_isWord_53 : decode cX11_isWord 53 = .ok (.iload_n 2, 1) := by decide +kernel
theorem dX11_isWord_54 : decode cX11_isWord 54 = .ok (.iload 5, 2) := by decide +kernel
theorem dX11_isWord_56 : decode cX11_isWord 56 = .ok (.invokestatic 192, 3) := by decide +kernel
theorem dX11_isWord_59 : decode cX11_isWord 59 = .ok (.if_icmp .ne 7, 3) := by decide +kernel
theorem dX11_isWord_62 : decode cX11_isWord 62 = .ok (.iconst 1, 1) := by decide +kernel
theorem dX11_isWord_63 : decode cX11_isWord 63 = .ok (.goto 4, 3) := by decide +kernel
theorem dX11_isWord_66 : decode cX11_isWord 66 = .ok (.iconst 0, 1) := by decide +kernel
theorem dX11_isWord_67 : decode cX11_isWord 67 = .ok (.istore 4, 2) := by decide +kernel
theorem dX11_isWord_69 : decode cX11_isWord 69 = .ok (.iinc 5 1, 3) := by decide +kernel
theorem dX11_isWord_72 : decode cX11_isWord 72 = .ok (.goto (-42), 3) := by decide +kernel
theorem dX11_isWord_75 : decode cX11_isWord 75 = .ok (.iload 4, 2) := by decide +kernel
theorem dX11_isWord_77 : decode cX11_isWord 77 = .ok (.ireturn, 1) := by decide +kernel
theorem dX11_want_0 : decode cX11_want 0 = .ok (.aload_n 0, 1) := by decide +kernel
theorem dX11_want_1 : decode cX11_want 1 = .ok (.aload_n 0, 1) := by decide +kernel
theorem dX11_want_2 : decode cX11_want 2 = .ok (.getfield 196, 3) := by decide +kernel
theorem dX11_want_5 : decode cX11_want 5 = .ok (.ifCond .ne 7, 3) := by decide +kernel
theorem dX11_want_8 : decode cX11_want 8 = .ok (.iload_n 1, 1) := by decide +kernel
theorem dX11_want_9 : decode cX11_want 9 = .ok (.ifCond .ne 7, 3) := by decide +kernel
theorem dX11_want_12 : decode cX11_want 12 = .ok (.iconst 1, 1) := by decide +kernel
theorem dX11_want_13 : decode cX11_want 13 = .ok (.goto 4, 3) := by decide +kernel
theorem dX11_want_16 : decode cX11_want 16 = .ok (.iconst 0, 1) := by decide +kernel
theorem dX11_want_17 : decode cX11_want 17 = .ok (.putfield 196, 3) := by decide +kernel
theorem dX11_want_20 : decode cX11_want 20 = .ok (.return_, 1) := by decide +kernel
theorem dX11_name_0 : decode cX11_name 0 = .ok (.aload_n 0, 1) := by decide +kernel
theorem dX11_name_1 : decode cX11_name 1 = .ok (.aload_n 0, 1) := by decide +kernel
theorem dX11_name_2 : decode cX11_name 2 = .ok (.getfield 200, 3) := by decide +kernel
theorem dX11_name_5 : decode cX11_name 5 = .ok (.iload_n 1, 1) := by decide +kernel
theorem dX11_name_6 : decode cX11_name 6 = .ok (.invokevirtual 203, 3) := by decide +kernel
theorem dX11_name_9 : decode cX11_name 9 = .ok (.istore 4, 2) := by decide +kernel
theorem dX11_name_11 : decode cX11_name 11 = .ok (.iload 4, 2) := by decide +kernel
theorem dX11_name_13 : decode cX11_name 13 = .ok (.ifCond .ge 23, 3) := by decide +kernel
theorem dX11_name_16 : decode cX11_name 16 = .ok (.aload_n 0, 1) := by decide +kernel
theorem dX11_name_17 : decode cX11_name 17 = .ok (.aload_n 0, 1) := by decide +kernel
theorem dX11_name_18 : decode cX11_name 18 = .ok (.getfield 200, 3) := by decide +kernel
theorem dX11_name_21 : decode cX11_name 21 = .ok (.bipush (-2), 2) := by decide +kernel
theorem dX11_name_23 : decode cX11_name 23 = .ok (.iadd, 1) := by decide +kernel
theorem dX11_name_24 : decode cX11_name 24 = .ok (.iload 4, 2) := by decide +kernel
theorem dX11_name_26 : decode cX11_name 26 = .ok (.isub, 1) := by decide +kernel
theorem dX11_name_27 : decode cX11_name 27 = .ok (.putfield 200, 3) := by decide +kernel
theorem dX11_name_30 : decode cX11_name 30 = .ok (.aload_n 0, 1) := by decide +kernel
theorem dX11_name_31 : decode cX11_name 31 = .ok (.iconst 1, 1) := by decide +kernel
theorem dX11_name_32 : decode cX11_name 32 = .ok (.putfield 196, 3) := by decide +kernel
theorem dX11_name_35 : decode cX11_name 35 = .ok (.return_, 1) := by decide +kernel
theorem dX11_name_36 : decode cX11_name 36 = .ok (.aload_n 0, 1) := by decide +kernel
theorem dX11_name_37 : decode cX11_name 37 = .ok (.aload_n 0, 1) := by decide +kernel
theorem dX11_name_38 : decode cX11_name 38 = .ok (.getfield 200, 3) := by decide +kernel
theorem dX11_name_41 : decode cX11_name 41 = .ok (.iload 4, 2) := by decide +kernel
theorem dX11_name_43 : decode cX11_name 43 = .ok (.iadd, 1) := by decide +kernel
theorem dX11_name_44 : decode cX11_name 44 = .ok (.putfield 200, 3) := by decide +kernel
theorem dX11_name_47 : decode cX11_name 47 = .ok (.iconst 0, 1) := by decide +kernel
theorem dX11_name_48 : decode cX11_name 48 = .ok (.istore 5, 2) := by decide +kernel
theorem dX11_name_50 : decode cX11_name 50 = .ok (.iload_n 2, 1) := by decide +kernel
theorem dX11_name_51 : decode cX11_name 51 = .ok (.istore 6, 2) := by decide +kernel
theorem dX11_name_53 : decode cX11_name 53 = .ok (.iload 6, 2) := by decide +kernel
theorem dX11_name_55 : decode cX11_name 55 = .ok (.iload_n 3, 1) := by decide +kernel
theorem dX11_name_56 : decode cX11_name 56 = .ok (.if_icmp .ge 31, 3) := by decide +kernel
theorem dX11_name_59 : decode cX11_name 59 = .ok (.iload 5, 2) := by decide +kernel
theorem dX11_name_61 : decode cX11_name 61 = .ok (.ifCond .ne 13, 3) := by decide +kernel
theorem dX11_name_64 : decode cX11_name 64 = .ok (.aload_n 0, 1) := by decide +kernel
theorem dX11_name_65 : decode cX11_name 65 = .ok (.iload 6, 2) := by decide +kernel
theorem dX11_name_67 : decode cX11_name 67 = .ok (.iload_n 1, 1) := by decide +kernel
theorem dX11_name_68 : decode cX11_name 68 = .ok (.invokevirtual 206, 3) := by decide +kernel
theorem dX11_name_71 : decode cX11_name 71 = .ok (.ifCond .eq 7, 3) := by decide +kernel
theorem dX11_name_74 : decode cX11_name 74 = .ok (.iconst 1, 1) := by decide +kernel
theorem dX11_name_75 : decode cX11_name 75 = .ok (.goto 4, 3) := by decide +kernel
theorem dX11_name_78 : decode cX11_name 78 = .ok (.iconst 0, 1) := by decide +kernel
theorem dX11_name_79 : decode cX11_name 79 = .ok (.istore 5, 2) := by decide +kernel
theorem dX11_name_81 : decode cX11_name 81 = .ok (.iinc 6 1, 3) := by decide +kernel
theorem dX11_name_84 : decode cX11_name 84 = .ok (.goto (-31), 3) := by decide +kernel
theorem dX11_name_87 : decode cX11_name 87 = .ok (.aload_n 0, 1) := by decide +kernel
theorem dX11_name_88 : decode cX11_name 88 = .ok (.aload_n 0, 1) := by decide +kernel
theorem dX11_name_89 : decode cX11_name 89 = .ok (.getfield 210, 3) := by decide +kernel
theorem dX11_name_92 : decode cX11_name 92 = .ok (.ifCond .ne 8, 3) := by decide +kernel
theorem dX11_name_95 : decode cX11_name 95 = .ok (.iload 5, 2) := by decide +kernel
theorem dX11_name_97 : decode cX11_name 97 = .ok (.ifCond .eq 7, 3) := by decide +kernel
theorem dX11_name_100 : decode cX11_name 100 = .ok (.iconst 1, 1) := by decide +kernel
theorem dX11_name_101 : decode cX11_name 101 = .ok (.goto 4, 3) := by decide +kernel
theorem dX11_name_104 : decode cX11_name 104 = .ok (.iconst 0, 1) := by decide +kernel
theorem dX11_name_105 : decode cX11_name 105 = .ok (.putfield 210, 3) := by decide +kernel
theorem dX11_name_108 : decode cX11_name 108 = .ok (.return_, 1) := by decide +kernel
theorem dX11_eat_0 : decode cX11_eat 0 = .ok (.aload_n 0, 1) := by decide +kernel
theorem dX11_eat_1 : decode cX11_eat 1 = .ok (.aload_n 0, 1) := by decide +kernel
theorem dX11_eat_2 : decode cX11_eat 2 = .ok (.aload_n 0, 1) := by decide +kernel
theorem dX11_eat_3 : decode cX11_eat 3 = .ok (.getfield 200, 3) := by decide +kernel
theorem dX11_eat_6 : decode cX11_eat 6 = .ok (.invokevirtual 182, 3) := by decide +kernel
theorem dX11_eat_9 : decode cX11_eat 9 = .ok (.iload_n 1, 1) := by decide +kernel
theorem dX11_eat_10 : decode cX11_eat 10 = .ok (.if_icmp .ne 7, 3) := by decide +kernel
theorem dX11_eat_13 : decode cX11_eat 13 = .ok (.iconst 1, 1) := by decide +kernel
theorem dX11_eat_14 : decode cX11_eat 14 = .ok (.goto 4, 3) := by decide +kernel
theorem dX11_eat_17 : decode cX11_eat 17 = .ok (.iconst 0, 1) := by decide +kernel
theorem dX11_eat_18 : decode cX11_eat 18 = .ok (.invokevirtual 213, 3) := by decide +kernel
theorem dX11_eat_21 : decode cX11_eat 21 = .ok (.aload_n 0, 1) := by decide +kernel
theorem dX11_eat_22 : decode cX11_eat 22 = .ok (.aload_n 0, 1) := by decide +kernel
theorem dX11_eat_23 : decode cX11_eat 23 = .ok (.getfield 196, 3) := by decide +kernel
theorem dX11_eat_26 : decode cX11_eat 26 = .ok (.ifCond .eq 10, 3) := by decide +kernel
theorem dX11_eat_29 : decode cX11_eat 29 = .ok (.aload_n 0, 1) := by decide +kernel
theorem dX11_eat_30 : decode cX11_eat 30 = .ok (.getfield 200, 3) := by decide +kernel
theorem dX11_eat_33 : decode cX11_eat 33 = .ok (.goto 9, 3) := by decide +kernel
theorem dX11_eat_36 : decode cX11_eat 36 = .ok (.aload_n 0, 1) := by decide +kernel
theorem dX11_eat_37 : decode cX11_eat 37 = .ok (.getfield 200, 3) := by decide +kernel
theorem dX11_eat_40 : decode cX11_eat 40 = .ok (.iconst 1, 1) := by decide +kernel
theorem dX11_eat_41 : decode cX11_eat 41 = .ok (.iadd, 1) := by decide +kernel
theorem dX11_eat_42 : decode cX11_eat 42 = .ok (.putfield 200, 3) := by decide +kernel
theorem dX11_eat_45 : decode cX11_eat 45 = .ok (.return_, 1) := by decide +kernel
theorem dX11_field_0 : decode cX11_field 0 = .ok (.iconst 4, 1) := by decide +kernel
theorem dX11_field_1 : decode cX11_field 1 = .ok (.iload_n 1, 1) := by decide +kernel
theorem dX11_field_2 : decode cX11_field 2 = .ok (.imul, 1) := by decide +kernel
theorem dX11_field_3 : decode cX11_field 3 = .ok (.iload_n 2, 1) := by decide +kernel
theorem dX11_field_4 : decode cX11_field 4 = .ok (.iadd, 1) := by decide +kernel
theorem dX11_field_5 : decode cX11_field 5 = .ok (.istore_n 3, 1) := by decide +kernel
theorem dX11_field_6 : decode cX11_field 6 = .ok (.aload_n 0, 1) := by decide +kernel
theorem dX11_field_7 : decode cX11_field 7 = .ok (.bipush 6, 2) := by decide +kernel
theorem dX11_field_9 : decode cX11_field 9 = .ok (.iload_n 3, 1) := by decide +kernel
theorem dX11_field_10 : decode cX11_field 10 = .ok (.iadd, 1) := by decide +kernel
theorem dX11_field_11 : decode cX11_field 11 = .ok (.bipush 6, 2) := by decide +kernel
theorem dX11_field_13 : decode cX11_field 13 = .ok (.iconst 4, 1) := by decide +kernel
theorem dX11_field_14 : decode cX11_field 14 = .ok (.iload_n 1, 1) := by decide +kernel
theorem dX11_field_15 : decode cX11_field 15 = .ok (.imul, 1) := by decide +kernel
theorem dX11_field_16 : decode cX11_field 16 = .ok (.iadd, 1) := by decide +kernel
theorem dX11_field_17 : decode cX11_field 17 = .ok (.bipush 6, 2) := by decide +kernel
theorem dX11_field_19 : decode cX11_field 19 = .ok (.iload_n 3, 1) := by decide +kernel
theorem dX11_field_20 : decode cX11_field 20 = .ok (.iadd, 1) := by decide +kernel
theorem dX11_field_21 : decode cX11_field 21 = .ok (.invokevirtual 217, 3) := by decide +kernel
theorem dX11_field_24 : decode cX11_field 24 = .ok (.aload_n 0, 1) := by decide +kernel
theorem dX11_field_25 : decode cX11_field 25 = .ok (.getfield 196, 3) := by decide +kernel
theorem dX11_field_28 : decode cX11_field 28 = .ok (.ifCond .eq 4, 3) := by decide +kernel
theorem dX11_field_31 : decode cX11_field 31 = .ok (.return_, 1) := by decide +kernel
theorem dX11_field_32 : decode cX11_field 32 = .ok (.aload_n 0, 1) := by decide +kernel
theorem dX11_field_33 : decode cX11_field 33 = .ok (.aload_n 0, 1) := by decide +kernel
theorem dX11_field_34 : decode cX11_field 34 = .ok (.getfield 210, 3) := by decide +kernel
theorem dX11_field_37 : decode cX11_field 37 = .ok (.ifCond .ne 27, 3) := by decide +kernel
theorem dX11_field_40 : decode cX11_field 40 = .ok (.aload_n 0, 1) := by decide +kernel
theorem dX11_field_41 : decode cX11_field 41 = .ok (.bipush 6, 2) := by decide +kernel
theorem dX11_field_43 : decode cX11_field 43 = .ok (.iload_n 3, 1) := by decide +kernel
theorem dX11_field_44 : decode cX11_field 44 = .ok (.iadd, 1) := by decide +kernel
theorem dX11_field_45 : decode cX11_field 45 = .ok (.iconst 0, 1) := by decide +kernel
theorem dX11_field_46 : decode cX11_field 46 = .ok (.invokevirtual 221, 3) := by decide +kernel
theorem dX11_field_49 : decode cX11_field 49 = .ok (.ifCond .ne 15, 3) := by decide +kernel
theorem dX11_field_52 : decode cX11_field 52 = .ok (.aload_n 0, 1) := by decide +kernel
theorem dX11_field_53 : decode cX11_field 53 = .ok (.bipush 6, 2) := by decide +kernel
theorem dX11_field_55 : decode cX11_field 55 = .ok (.iload_n 3, 1) := by decide +kernel
theorem dX11_field_56 : decode cX11_field 56 = .ok (.iadd, 1) := by decide +kernel
theorem dX11_field_57 : decode cX11_field 57 = .ok (.iconst 1, 1) := by decide +kernel
theorem dX11_field_58 : decode cX11_field 58 = .ok (.invokevirtual 221, 3) := by decide +kernel
theorem dX11_field_61 : decode cX11_field 61 = .ok (.ifCond .eq 7, 3) := by decide +kernel
theorem dX11_field_64 : decode cX11_field 64 = .ok (.iconst 1, 1) := by decide +kernel
theorem dX11_field_65 : decode cX11_field 65 = .ok (.goto 4, 3) := by decide +kernel
theorem dX11_field_68 : decode cX11_field 68 = .ok (.iconst 0, 1) := by decide +kernel
theorem dX11_field_69 : decode cX11_field 69 = .ok (.putfield 210, 3) := by decide +kernel
theorem dX11_field_72 : decode cX11_field 72 = .ok (.aload_n 0, 1) := by decide +kernel
theorem dX11_field_73 : decode cX11_field 73 = .ok (.bipush 58, 2) := by decide +kernel
theorem dX11_field_75 : decode cX11_field 75 = .ok (.invokevirtual 224, 3) := by decide +kernel
theorem dX11_field_78 : decode cX11_field 78 = .ok (.aload_n 0, 1) := by decide +kernel
theorem dX11_field_79 : decode cX11_field 79 = .ok (.aload_n 0, 1) := by decide +kernel
theorem dX11_field_80 : decode cX11_field 80 = .ok (.getfield 200, 3) := by decide +kernel
theorem dX11_field_83 : decode cX11_field 83 = .ok (.invokevirtual 182, 3) := by decide +kernel
theorem dX11_field_86 : decode cX11_field 86 = .ok (.istore 4, 2) := by decide +kernel
theorem dX11_field_88 : decode cX11_field 88 = .ok (.aload_n 0, 1) := by decide +kernel
theorem dX11_field_89 : decode cX11_field 89 = .ok (.getfield 41, 3) := by decide +kernel
theorem dX11_field_92 : decode cX11_field 92 = .ok (.iload_n 3, 1) := by decide +kernel
theorem dX11_field_93 : decode cX11_field 93 = .ok (.iload 4, 2) := by decide +kernel
theorem dX11_field_95 : decode cX11_field 95 = .ok (.bipush 105, 2) := by decide +kernel
theorem dX11_field_97 : decode cX11_field 97 = .ok (.if_icmp .ne 7, 3) := by decide +kernel
theorem dX11_field_100 : decode cX11_field 100 = .ok (.iconst 0, 1) := by decide +kernel
theorem dX11_field_101 : decode cX11_field 101 = .ok (.goto 26, 3) := by decide +kernel
theorem dX11_field_104 : decode cX11_field 104 = .ok (.iload 4, 2) := by decide +kernel
theorem dX11_field_106 : decode cX11_field 106 = .ok (.bipush 116, 2) := by decide +kernel
theorem dX11_field_108 : decode cX11_field 108 = .ok (.if_icmp .ne 7, 3) := by decide +kernel
theorem dX11_field_111 : decode cX11_field 111 = .ok (.iconst 1, 1) := by decide +kernel
theorem dX11_field_112 : decode cX11_field 112 = .ok (.goto 15, 3) := by decide +kernel
theorem dX11_field_115 : decode cX11_field 115 = .ok (.iload 4, 2) := by decide +kernel
theorem dX11_field_117 : decode cX11_field 117 = .ok (.bipush 114, 2) := by decide +kernel
theorem dX11_field_119 : decode cX11_field 119 = .ok (.if_icmp .ne 7, 3) := by decide +kernel
theorem dX11_field_122 : decode cX11_field 122 = .ok (.iconst 2, 1) := by decide +kernel
theorem dX11_field_123 : decode cX11_field 123 = .ok (.goto 4, 3) := by decide +kernel
theorem dX11_field_126 : decode cX11_field 126 = .ok (.iconst 3, 1) := by decide +kernel
theorem dX11_field_127 : decode cX11_field 127 = .ok (.iastore, 1) := by decide +kernel
theorem dX11_field_128 : decode cX11_field 128 = .ok (.aload_n 0, 1) := by decide +kernel
theorem dX11_field_129 : decode cX11_field 129 = .ok (.iload 4, 2) := by decide +kernel
theorem dX11_field_131 : decode cX11_field 131 = .ok (.bipush 105, 2) := by decide +kernel
theorem dX11_field_133 : decode cX11_field 133 = .ok (.if_icmp .eq 24, 3) := by decide +kernel
theorem dX11_field_136 : decode cX11_field 136 = .ok (.iload 4, 2) := by decide +kernel
theorem dX11_field_138 : decode cX11_field 138 = .ok (.bipush 116, 2) := by decide +kernel
theorem dX11_field_140 : decode cX11_field 140 = .ok (.if_icmp .eq 17, 3) := by decide +kernel
theorem dX11_field_143 : decode cX11_field 143 = .ok (.iload 4, 2) := by decide +kernel
theorem dX11_field_145 : decode cX11_field 145 = .ok (.bipush 114, 2) := by decide +kernel
theorem dX11_field_147 : decode cX11_field 147 = .ok (.if_icmp .eq 10, 3) := by decide +kernel
theorem dX11_field_150 : decode cX11_field 150 = .ok (.iload 4, 2) := by decide +kernel
theorem dX11_field_152 : decode cX11_field 152 = .ok (.bipush 108, 2) := by decide +kernel
theorem dX11_field_154 : decode cX11_field 154 = .ok (.if_icmp .ne 7, 3) := by decide +kernel
theorem dX11_field_157 : decode cX11_field 157 = .ok (.iconst 1, 1) := by decide +kernel
theorem dX11_field_158 : decode cX11_field 158 = .ok (.goto 4, 3) := by decide +kernel
theorem dX11_field_161 : decode cX11_field 161 = .ok (.iconst 0, 1) := by decide +kernel
theorem dX11_field_162 : decode cX11_field 162 = .ok (.invokevirtual 213, 3) := by decide +kernel
theorem dX11_field_165 : decode cX11_field 165 = .ok (.aload_n 0, 1) := by decide +kernel
theorem dX11_field_166 : decode cX11_field 166 = .ok (.getfield 196, 3) := by decide +kernel
theorem dX11_field_169 : decode cX11_field 169 = .ok (.ifCond .eq 4, 3) := by decide +kernel
theorem dX11_field_172 : decode cX11_field 172 = .ok (.return_, 1) := by decide +kernel
theorem dX11_field_173 : decode cX11_field 173 = .ok (.aload_n 0, 1) := by decide +kernel
theorem dX11_field_174 : decode cX11_field 174 = .ok (.dup, 1) := by decide +kernel
theorem dX11_field_175 : decode cX11_field 175 = .ok (.getfield 200, 3) := by decide +kernel
theorem dX11_field_178 : decode cX11_field 178 = .ok (.iconst 1, 1) := by decide +kernel
theorem dX11_field_179 : decode cX11_field 179 = .ok (.iadd, 1) := by decide +kernel
theorem dX11_field_180 : decode cX11_field 180 = .ok (.putfield 200, 3) := by decide +kernel
theorem dX11_field_183 : decode cX11_field 183 = .ok (.aload_n 0, 1) := by decide +kernel
theorem dX11_field_184 : decode cX11_field 184 = .ok (.aload_n 0, 1) := by decide +kernel
theorem dX11_field_185 : decode cX11_field 185 = .ok (.getfield 200, 3) := by decide +kernel
theorem dX11_field_188 : decode cX11_field 188 = .ok (.invokevirtual 182, 3) := by decide +kernel
theorem dX11_field_191 : decode cX11_field 191 = .ok (.istore 4, 2) := by decide +kernel
theorem dX11_field_193 : decode cX11_field 193 = .ok (.iconst 0, 1) := by decide +kernel
theorem dX11_field_194 : decode cX11_field 194 = .ok (.istore 5, 2) := by decide +kernel
theorem dX11_field_196 : decode cX11_field 196 = .ok (.iconst 4, 1) := by decide +kernel
theorem dX11_field_197 : decode cX11_field 197 = .ok (.iload_n 1, 1) := by decide +kernel
theorem dX11_field_198 : decode cX11_field 198 = .ok (.imul, 1) := by decide +kernel
theorem dX11_field_199 : decode cX11_field 199 = .ok (.istore 6, 2) := by decide +kernel
theorem dX11_field_201 : decode cX11_field 201 = .ok (.iload 6, 2) := by decide +kernel
theorem dX11_field_203 : decode cX11_field 203 = .ok (.iload_n 3, 1) := by decide +kernel
theorem dX11_field_204 : decode cX11_field 204 = .ok (.if_icmp .ge 42, 3) := by decide +kernel
theorem dX11_field_207 : decode cX11_field 207 = .ok (.iload 5, 2) := by decide +kernel
theorem dX11_field_209 : decode cX11_field 209 = .ok (.ifCond .ne 24, 3) := by decide +kernel
theorem dX11_field_212 : decode cX11_field 212 = .ok (.aload_n 0, 1) := by decide +kernel
theorem dX11_field_213 : decode cX11_field 213 = .ok (.getfield 41, 3) := by decide +kernel
theorem dX11_field_216 : decode cX11_field 216 = .ok (.iload 6, 2) := by decide +kernel
theorem dX11_field_218 : decode cX11_field 218 = .ok (.iaload, 1) := by decide +kernel
theorem dX11_field_219 : decode cX11_field 219 = .ok (.iconst 3, 1) := by decide +kernel
theorem dX11_field_220 : decode cX11_field 220 = .ok (.if_icmp .ne 17, 3) := by decide +kernel
theorem dX11_field_223 : decode cX11_field 223 = .ok (.aload_n 0, 1) := by decide +kernel
theorem dX11_field_224 : decode cX11_field 224 = .ok (.getfield 44, 3) := by decide +kernel
theorem dX11_field_227 : decode cX11_field 227 = .ok (.iload 6, 2) := by decide +kernel
theorem dX11_field_229 : decode cX11_field 229 = .ok (.baload, 1) := by decide +kernel
theorem dX11_field_230 : decode cX11_field 230 = .ok (.ifCond .eq 7, 3) := by decide +kernel
theorem dX11_field_233 : decode cX11_field 233 = .ok (.iconst 1, 1) := by decide +kernel
theorem dX11_field_234 : decode cX11_field 234 = .ok (.goto 4, 3) := by decide +kernel
theorem dX11_field_237 : decode cX11_field 237 = .ok (.iconst 0, 1) := by decide +kernel
theorem dX11_field_238 : decode cX11_field 238 = .ok (.istore 5, 2) := by decide +kernel
theorem dX11_field_240 : decode cX11_field 240 = .ok (.iinc 6 1, 3) := by decide +kernel
theorem dX11_field_243 : decode cX11_field 243 = .ok (.goto (-42), 3) := by decide +kernel
theorem dX11_field_246 : decode cX11_field 246 = .ok (.aload_n 0, 1) := by decide +kernel
theorem dX11_field_247 : decode cX11_field 247 = .ok (.getfield 44, 3) := by decide +kernel
theorem dX11_field_250 : decode cX11_field 250 = .ok (.iload_n 3, 1) := by decide +kernel
theorem dX11_field_251 : decode cX11_field 251 = .ok (.iload 4, 2) := by decide +kernel
theorem dX11_field_253 : decode cX11_field 253 = .ok (.bipush 64, 2) := by decide +kernel
theorem dX11_field_255 : decode cX11_field 255 = .ok (.if_icmp .ne 13, 3) := by decide +kernel
theorem dX11_field_258 : decode cX11_field 258 = .ok (.aload_n 0, 1) := by decide +kernel
theorem dX11_field_259 : decode cX11_field 259 = .ok (.getfield 41, 3) := by decide +kernel
theorem dX11_field_262 : decode cX11_field 262 = .ok (.iload_n 3, 1) := by decide +kernel
theorem dX11_field_263 : decode cX11_field 263 = .ok (.iaload, 1) := by decide +kernel
theorem dX11_field_264 : decode cX11_field 264 = .ok (.iconst 1, 1) := by decide +kernel
theorem dX11_field_265 : decode cX11_field 265 = .ok (.if_icmp .le 25, 3) := by decide +kernel
theorem dX11_field_268 : decode cX11_field 268 = .ok (.iload 4, 2) := by decide +kernel
theorem dX11_field_270 : decode cX11_field 270 = .ok (.bipush 42, 2) := by decide +kernel
theorem dX11_field_272 : decode cX11_field 272 = .ok (.if_icmp .ne 22, 3) := by decide +kernel
theorem dX11_field_275 : decode cX11_field 275 = .ok (.aload_n 0, 1) := by decide +kernel
theorem dX11_field_276 : decode cX11_field 276 = .ok (.getfield 41, 3) := by decide +kernel
theorem dX11_field_279 : decode cX11_field 279 = .ok (.iload_n 3, 1) := by decide +kernel
theorem dX11_field_280 : decode cX11_field 280 = .ok (.iaload, 1) := by decide +kernel
theorem dX11_field_281 : decode cX11_field 281 = .ok (.iconst 3, 1) := by decide +kernel
theorem dX11_field_282 : decode cX11_field 282 = .ok (.if_icmp .ne 12, 3) := by decide +kernel
theorem dX11_field_285 : decode cX11_field 285 = .ok (.iload 5, 2) := by decide +kernel
theorem dX11_field_287 : decode cX11_field 287 = .ok (.ifCond .ne 7, 3) := by decide +kernel
theorem dX11_field_290 : decode cX11_field 290 = .ok (.iconst 1, 1) := by decide +kernel
theorem dX11_field_291 : decode cX11_field 291 = .ok (.goto 4, 3) := by decide +kernel
theorem dX11_field_294 : decode cX11_field 294 = .ok (.iconst 0, 1) := by decide +kernel
theorem dX11_field_295 : decode cX11_field 295 = .ok (.bastore, 1) := by decide +kernel
theorem dX11_field_296 : decode cX11_field 296 = .ok (.aload_n 0, 1) := by decide +kernel
theorem dX11_field_297 : decode cX11_field 297 = .ok (.aload_n 0, 1) := by decide +kernel
theorem dX11_field_298 : decode cX11_field 298 = .ok (.getfield 44, 3) := by decide +kernel
theorem dX11_field_301 : decode cX11_field 301 = .ok (.iload_n 3, 1) := by decide +kernel
theorem dX11_field_302 : decode cX11_field 302 = .ok (.baload, 1) := by decide +kernel
theorem dX11_field_303 : decode cX11_field 303 = .ok (.ifCond .eq 12, 3) := by decide +kernel
theorem dX11_field_306 : decode cX11_field 306 = .ok (.aload_n 0, 1) := by decide +kernel
theorem dX11_field_307 : decode cX11_field 307 = .ok (.getfield 200, 3) := by decide +kernel
theorem dX11_field_310 : decode cX11_field 310 = .ok (.iconst 1, 1) := by decide +kernel
theorem dX11_field_311 : decode cX11_field 311 = .ok (.iadd, 1) := by decide +kernel
theorem dX11_field_312 : decode cX11_field 312 = .ok (.goto 7, 3) := by decide +kernel
theorem dX11_field_315 : decode cX11_field 315 = .ok (.aload_n 0, 1) := by decide +kernel
theorem dX11_field_316 : decode cX11_field 316 = .ok (.getfield 200, 3) := by decide +kernel
theorem dX11_field_319 : decode cX11_field 319 = .ok (.putfield 200, 3) := by decide +kernel
theorem dX11_field_322 : decode cX11_field 322 = .ok (.return_, 1) := by decide +kernel
theorem dX11_oneClass_0 : decode cX11_oneClass 0 = .ok (.aload_n 0, 1) := by decide +kernel
theorem dX11_oneClass_1 : decode cX11_oneClass 1 = .ok (.iload_n 1, 1) := by decide +kernel
theorem dX11_oneClass_2 : decode cX11_oneClass 2 = .ok (.iconst 0, 1) := by decide +kernel
theorem dX11_oneClass_3 : decode cX11_oneClass 3 = .ok (.iload_n 1, 1) := by decide +kernel
theorem dX11_oneClass_4 : decode cX11_oneClass 4 = .ok (.invokevirtual 217, 3) := by decide +kernel
theorem dX11_oneClass_7 : decode cX11_oneClass 7 = .ok (.aload_n 0, 1) := by decide +kernel
theorem dX11_oneClass_8 : decode cX11_oneClass 8 = .ok (.getfield 32, 3) := by decide +kernel
theorem dX11_oneClass_11 : decode cX11_oneClass 11 = .ok (.iload_n 1, 1) := by decide +kernel
theorem dX11_oneClass_12 : decode cX11_oneClass 12 = .ok (.iconst 0, 1) := by decide +kernel
theorem dX11_oneClass_13 : decode cX11_oneClass 13 = .ok (.iastore, 1) := by decide +kernel
theorem dX11_oneClass_14 : decode cX11_oneClass 14 = .ok (.aload_n 0, 1) := by decide +kernel
theorem dX11_oneClass_15 : decode cX11_oneClass 15 = .ok (.getfield 196, 3) := by decide +kernel
theorem dX11_oneClass_18 : decode cX11_oneClass 18 = .ok (.ifCond .eq 4, 3) := by decide +kernel
theorem dX11_oneClass_21 : decode cX11_oneClass 21 = .ok (.return_, 1) := by decide +kernel
theorem dX11_oneClass_22 : decode cX11_oneClass 22 = .ok (.aload_n 0, 1) := by decide +kernel
theorem dX11_oneClass_23 : decode cX11_oneClass 23 = .ok (.bipush 40, 2) := by decide +kernel
theorem dX11_oneClass_25 : decode cX11_oneClass 25 = .ok (.invokevirtual 224, 3) := by decide +kernel
theorem dX11_oneClass_28 : decode cX11_oneClass 28 = .ok (.aload_n 0, 1) := by decide +kernel
theorem dX11_oneClass_29 : decode cX11_oneClass 29 = .ok (.getfield 196, 3) := by decide +kernel
theorem dX11_oneClass_32 : decode cX11_oneClass 32 = .ok (.ifCond .ne 20, 3) := by decide +kernel
theorem dX11_oneClass_35 : decode cX11_oneClass 35 = .ok (.aload_n 0, 1) := by decide +kernel
theorem dX11_oneClass_36 : decode cX11_oneClass 36 = .ok (.aload_n 0, 1) := by decide +kernel
theorem dX11_oneClass_37 : decode cX11_oneClass 37 = .ok (.getfield 200, 3) := by decide +kernel
theorem dX11_oneClass_40 : decode cX11_oneClass 40 = .ok (.invokevirtual 182, 3) := by decide +kernel
theorem dX11_oneClass_43 : decode cX11_oneClass 43 = .ok (.bipush 41, 2) := by decide +kernel
theorem dX11_oneClass_45 : decode cX11_oneClass 45 = .ok (.if_icmp .eq 7, 3) := by decide +kernel
theorem dX11_oneClass_48 : decode cX11_oneClass 48 = .ok (.iconst 1, 1) := by decide +kernel
theorem dX11_oneClass_49 : decode cX11_oneClass 49 = .ok (.goto 4, 3) := by decide +kernel
theorem dX11_oneClass_52 : decode cX11_oneClass 52 = .ok (.iconst 0, 1) := by decide +kernel
theorem dX11_oneClass_53 : decode cX11_oneClass 53 = .ok (.istore_n 2, 1) := by decide +kernel
theorem dX11_oneClass_54 : decode cX11_oneClass 54 = .ok (.iload_n 2, 1) := by decide +kernel
theorem dX11_oneClass_55 : decode cX11_oneClass 55 = .ok (.ifCond .eq 84, 3) := by decide +kernel
theorem dX11_oneClass_58 : decode cX11_oneClass 58 = .ok (.aload_n 0, 1) := by decide +kernel
theorem dX11_oneClass_59 : decode cX11_oneClass 59 = .ok (.iload_n 1, 1) := by decide +kernel
theorem dX11_oneClass_60 : decode cX11_oneClass 60 = .ok (.aload_n 0, 1) := by decide +kernel
theorem dX11_oneClass_61 : decode cX11_oneClass 61 = .ok (.getfield 32, 3) := by decide +kernel
theorem dX11_oneClass_64 : decode cX11_oneClass 64 = .ok (.iload_n 1, 1) := by decide +kernel
theorem dX11_oneClass_65 : decode cX11_oneClass 65 = .ok (.iaload, 1) := by decide +kernel
theorem dX11_oneClass_66 : decode cX11_oneClass 66 = .ok (.invokevirtual 228, 3) := by decide +kernel
theorem dX11_oneClass_69 : decode cX11_oneClass 69 = .ok (.aload_n 0, 1) := by decide +kernel
theorem dX11_oneClass_70 : decode cX11_oneClass 70 = .ok (.getfield 32, 3) := by decide +kernel
theorem dX11_oneClass_73 : decode cX11_oneClass 73 = .ok (.iload_n 1, 1) := by decide +kernel
theorem dX11_oneClass_74 : decode cX11_oneClass 74 = .ok (.dup2, 1) := by decide +kernel
theorem dX11_oneClass_75 : decode cX11_oneClass 75 = .ok (.iaload, 1) := by decide +kernel
theorem dX11_oneClass_76 : decode cX11_oneClass 76 = .ok (.iconst 1, 1) := by decide +kernel
theorem dX11_oneClass_77 : decode cX11_oneClass 77 = .ok (.iadd, 1) := by decide +kernel
theorem dX11_oneClass_78 : decode cX11_oneClass 78 = .ok (.iastore, 1) := by decide +kernel
theorem dX11_oneClass_79 : decode cX11_oneClass 79 = .ok (.aload_n 0, 1) := by decide +kernel
theorem dX11_oneClass_80 : decode cX11_oneClass 80 = .ok (.getfield 196, 3) := by decide +kernel
theorem dX11_oneClass_83 : decode cX11_oneClass 83 = .ok (.ifCond .ne 30, 3) := by decide +kernel
theorem dX11_oneClass_86 : decode cX11_oneClass 86 = .ok (.aload_n 0, 1) := by decide +kernel
theorem dX11_oneClass_87 : decode cX11_oneClass 87 = .ok (.getfield 32, 3) := by decide +kernel
theorem dX11_oneClass_90 : decode cX11_oneClass 90 = .ok (.iload_n 1, 1) := by decide +kernel
theorem dX11_oneClass_91 : decode cX11_oneClass 91 = .ok (.iaload, 1) := by decide +kernel
theorem dX11_oneClass_92 : decode cX11_oneClass 92 = .ok (.iconst 4, 1) := by decide +kernel
theorem dX11_oneClass_93 : decode cX11_oneClass 93 = .ok (.if_icmp .ge 20, 3) := by decide +kernel
theorem dX11_oneClass_96 : decode cX11_oneClass 96 = .ok (.aload_n 0, 1) := by decide +kernel
theorem dX11_oneClass_97 : decode cX11_oneClass 97 = .ok (.aload_n 0, 1) := by decide +kernel
theorem dX11_oneClass_98 : decode cX11_oneClass 98 = .ok (.getfield 200, 3) := by decide +kernel
theorem dX11_oneClass_101 : decode cX11_oneClass 101 = .ok (.invokevirtual 182, 3) := by decide +kernel
theorem dX11_oneClass_104 : decode cX11_oneClass 104 = .ok (.bipush 44, 2) := by decide +kernel
theorem dX11_oneClass_106 : decode cX11_oneClass 106 = .ok (.if_icmp .ne 7, 3) := by decide +kernel
theorem dX11_oneClass_109 : decode cX11_oneClass 109 = .ok (.iconst 1, 1) := by decide +kernel
theorem dX11_oneClass_110 : decode cX11_oneClass 110 = .ok (.goto 4, 3) := by decide +kernel
theorem dX11_oneClass_113 : decode cX11_oneClass 113 = .ok (.iconst 0, 1) := by decide +kernel
theorem dX11_oneClass_114 : decode cX11_oneClass 114 = .ok (.istore_n 2, 1) := by decide +kernel
theorem dX11_oneClass_115 : decode cX11_oneClass 115 = .ok (.aload_n 0, 1) := by decide +kernel
theorem dX11_oneClass_116 : decode cX11_oneClass 116 = .ok (.iload_n 2, 1) := by decide +kernel
theorem dX11_oneClass_117 : decode cX11_oneClass 117 = .ok (.ifCond .eq 12, 3) := by decide +kernel
theorem dX11_oneClass_120 : decode cX11_oneClass 120 = .ok (.aload_n 0, 1) := by decide +kernel
theorem dX11_oneClass_121 : decode cX11_oneClass 121 = .ok (.getfield 200, 3) := by decide +kernel
theorem dX11_oneClass_124 : decode cX11_oneClass 124 = .ok (.iconst 1, 1) := by decide +kernel
theorem dX11_oneClass_125 : decode cX11_oneClass 125 = .ok (.iadd, 1) := by decide +kernel
theorem dX11_oneClass_126 : decode cX11_oneClass 126 = .ok (.goto 7, 3) := by decide +kernel
theorem dX11_oneClass_129 : decode cX11_oneClass 129 = .ok (.aload_n 0, 1) := by decide +kernel
theorem dX11_oneClass_130 : decode cX11_oneClass 130 = .ok (.getfield 200, 3) := by decide +kernel
theorem dX11_oneClass_133 : decode cX11_oneClass 133 = .ok (.putfield 200, 3) := by decide +kernel
theorem dX11_oneClass_136 : decode cX11_oneClass 136 = .ok (.goto (-82), 3) := by decide +kernel
theorem dX11_oneClass_139 : decode cX11_oneClass 139 = .ok (.aload_n 0, 1) := by decide +kernel
theorem dX11_oneClass_140 : decode cX11_oneClass 140 = .ok (.getfield 196, 3) := by decide +kernel
theorem dX11_oneClass_143 : decode cX11_oneClass 143 = .ok (.ifCond .ne 9, 3) := by decide +kernel
theorem dX11_oneClass_146 : decode cX11_oneClass 146 = .ok (.aload_n 0, 1) := by decide +kernel
theorem dX11_oneClass_147 : decode cX11_oneClass 147 = .ok (.bipush 41, 2) := by decide +kernel
theorem dX11_oneClass_149 : decode cX11_oneClass 149 = .ok (.invokevirtual 224, 3) := by decide +kernel
theorem dX11_oneClass_152 : decode cX11_oneClass 152 = .ok (.return_, 1) := by decide +kernel
theorem dX11_isMixed_0 : decode cX11_isMixed 0 = .ok (.iconst 0, 1) := by decide +kernel
theorem dX11_isMixed_1 : decode cX11_isMixed 1 = .ok (.istore_n 2, 1) := by decide +kernel
theorem dX11_isMixed_2 : decode cX11_isMixed 2 = .ok (.iconst 0, 1) := by decide +kernel
theorem dX11_isMixed_3 : decode cX11_isMixed 3 = .ok (.istore_n 3, 1) := by decide +kernel
theorem dX11_isMixed_4 : decode cX11_isMixed 4 = .ok (.iload_n 3, 1) := by decide +kernel
theorem dX11_isMixed_5 : decode cX11_isMixed 5 = .ok (.iload_n 1, 1) := by decide +kernel
theorem dX11_isMixed_6 : decode cX11_isMixed 6 = .ok (.if_icmp .ge 141, 3) := by decide +kernel
theorem dX11_isMixed_9 : decode cX11_isMixed 9 = .ok (.iconst 0, 1) := by decide +kernel
theorem dX11_isMixed_10 : decode cX11_isMixed 10 = .ok (.istore 4, 2) := by decide +kernel
theorem dX11_isMixed_12 : decode cX11_isMixed 12 = .ok (.iconst 0, 1) := by decide +kernel
theorem dX11_isMixed_13 : decode cX11_isMixed 13 = .ok (.istore 5, 2) := by decide +kernel
theorem dX11_isMixed_15 : decode cX11_isMixed 15 = .ok (.iload 5, 2) := by decide +kernel
theorem dX11_isMixed_17 : decode cX11_isMixed 17 = .ok (.aload_n 0, 1) := by decide +kernel
theorem dX11_isMixed_18 : decode cX11_isMixed 18 = .ok (.getfield 32, 3) := by decide +kernel
theorem dX11_isMixed_21 : decode cX11_isMixed 21 = .ok (.iload_n 3, 1) := by decide +kernel
theorem dX11_isMixed_22 : decode cX11_isMixed 22 = .ok (.iaload, 1) := by decide +kernel
theorem dX11_isMixed_23 : decode cX11_isMixed 23 = .ok (.if_icmp .ge 50, 3) := by decide +kernel
theorem dX11_isMixed_26 : decode cX11_isMixed 26 = .ok (.iload 4, 2) := by decide +kernel
theorem dX11_isMixed_28 : decode cX11_isMixed 28 = .ok (.ifCond .ne 32, 3) := by decide +kernel
theorem dX11_isMixed_31 : decode cX11_isMixed 31 = .ok (.aload_n 0, 1) := by decide +kernel
theorem dX11_isMixed_32 : decode cX11_isMixed 32 = .ok (.getfield 41, 3) := by decide +kernel
theorem dX11_isMixed_35 : decode cX11_isMixed 35 = .ok (.iconst 4, 1) := by decide +kernel
theorem dX11_isMixed_36 : decode cX11_isMixed 36 = .ok (.iload_n 3, 1) := by decide +kernel
theorem dX11_isMixed_37 : decode cX11_isMixed 37 = .ok (.imul, 1) := by decide +kernel
theorem dX11_isMixed_38 : decode cX11_isMixed 38 = .ok (.iload 5, 2) := by decide +kernel
theorem dX11_isMixed_40 : decode cX11_isMixed 40 = .ok (.iadd, 1) := by decide +kernel
theorem dX11_isMixed_41 : decode cX11_isMixed 41 = .ok (.iaload, 1) := by decide +kernel
theorem dX11_isMixed_42 : decode cX11_isMixed 42 = .ok (.iconst 3, 1) := by decide +kernel
theorem dX11_isMixed_43 : decode cX11_isMixed 43 = .ok (.if_icmp .ne 21, 3) := by decide +kernel
theorem dX11_isMixed_46 : decode cX11_isMixed 46 = .ok (.aload_n 0, 1) := by decide +kernel
theorem dX11_isMixed_47 : decode cX11_isMixed 47 = .ok (.getfield 44, 3) := by decide +kernel
theorem dX11_isMixed_50 : decode cX11_isMixed 50 = .ok (.iconst 4, 1) := by decide +kernel
theorem dX11_isMixed_51 : decode cX11_isMixed 51 = .ok (.iload_n 3, 1) := by decide +kernel
theorem dX11_isMixed_52 : decode cX11_isMixed 52 = .ok (.imul, 1) := by decide +kernel
theorem dX11_isMixed_53 : decode cX11_isMixed 53 = .ok (.iload 5, 2) := by decide +kernel
theorem dX11_isMixed_55 : decode cX11_isMixed 55 = .ok (.iadd, 1) := by decide +kernel
theorem dX11_isMixed_56 : decode cX11_isMixed 56 = .ok (.baload, 1) := by decide +kernel
theorem dX11_isMixed_57 : decode cX11_isMixed 57 = .ok (.ifCond .eq 7, 3) := by decide +kernel
theorem dX11_isMixed_60 : decode cX11_isMixed 60 = .ok (.iconst 1, 1) := by decide +kernel
theorem dX11_isMixed_61 : decode cX11_isMixed 61 = .ok (.goto 4, 3) := by decide +kernel
theorem dX11_isMixed_64 : decode cX11_isMixed 64 = .ok (.iconst 0, 1) := by decide +kernel
theorem dX11_isMixed_65 : decode cX11_isMixed 65 = .ok (.istore 4, 2) := by decide +kernel
theorem dX11_isMixed_67 : decode cX11_isMixed 67 = .ok (.iinc 5 1, 3) := by decide +kernel
theorem dX11_isMixed_70 : decode cX11_isMixed 70 = .ok (.goto (-55), 3) := by decide +kernel
theorem dX11_isMixed_73 : decode cX11_isMixed 73 = .ok (.iconst 0, 1) := by decide +kernel
theorem dX11_isMixed_74 : decode cX11_isMixed 74 = .ok (.istore 5, 2) := by decide +kernel
theorem dX11_isMixed_76 : decode cX11_isMixed 76 = .ok (.iload 5, 2) := by decide +kernel
theorem dX11_isMixed_78 : decode cX11_isMixed 78 = .ok (.aload_n 0, 1) := by decide +kernel
theorem dX11_isMixed_79 : decode cX11_isMixed 79 = .ok (.getfield 32, 3) := by decide +kernel
theorem dX11_isMixed_82 : decode cX11_isMixed 82 = .ok (.iload_n 3, 1) := by decide +kernel
theorem dX11_isMixed_83 : decode cX11_isMixed 83 = .ok (.iaload, 1) := by decide +kernel
theorem dX11_isMixed_84 : decode cX11_isMixed 84 = .ok (.if_icmp .ge 57, 3) := by decide +kernel
theorem dX11_isMixed_87 : decode cX11_isMixed 87 = .ok (.iload 4, 2) := by decide +kernel
theorem dX11_isMixed_89 : decode cX11_isMixed 89 = .ok (.ifCond .eq 52, 3) := by decide +kernel
theorem dX11_isMixed_92 : decode cX11_isMixed 92 = .ok (.iconst 0, 1) := by decide +kernel
theorem dX11_isMixed_93 : decode cX11_isMixed 93 = .ok (.istore 6, 2) := by decide +kernel
theorem dX11_isMixed_95 : decode cX11_isMixed 95 = .ok (.iload 6, 2) := by decide +kernel
theorem dX11_isMixed_97 : decode cX11_isMixed 97 = .ok (.iload_n 1, 1) := by decide +kernel
theorem dX11_isMixed_98 : decode cX11_isMixed 98 = .ok (.if_icmp .ge 37, 3) := by decide +kernel
theorem dX11_isMixed_101 : decode cX11_isMixed 101 = .ok (.iload_n 2, 1) := by decide +kernel
theorem dX11_isMixed_102 : decode cX11_isMixed 102 = .ok (.ifCond .ne 21, 3) := by decide +kernel
theorem dX11_isMixed_105 : decode cX11_isMixed 105 = .ok (.aload_n 0, 1) := by decide +kernel
theorem dX11_isMixed_106 : decode cX11_isMixed 106 = .ok (.iload 6, 2) := by decide +kernel
theorem dX11_isMixed_108 : decode cX11_isMixed 108 = .ok (.bipush 6, 2) := by decide +kernel
theorem dX11_isMixed_110 : decode cX11_isMixed 110 = .ok (.iconst 4, 1) := by decide +kernel
theorem dX11_isMixed_111 : decode cX11_isMixed 111 = .ok (.iload_n 3, 1) := by decide +kernel
theorem dX11_isMixed_112 : decode cX11_isMixed 112 = .ok (.imul, 1) := by decide +kernel
theorem dX11_isMixed_113 : decode cX11_isMixed 113 = .ok (.iadd, 1) := by decide +kernel
theorem dX11_isMixed_114 : decode cX11_isMixed 114 = .ok (.iload 5, 2) := by decide +kernel
theorem dX11_isMixed_116 : decode cX11_isMixed 116 = .ok (.iadd, 1) := by decide +kernel
theorem dX11_isMixed_117 : decode cX11_isMixed 117 = .ok (.invokevirtual 206, 3) := by decide +kernel
theorem dX11_isMixed_120 : decode cX11_isMixed 120 = .ok (.ifCond .eq 7, 3) := by decide +kernel
theorem dX11_isMixed_123 : decode cX11_isMixed 123 = .ok (.iconst 1, 1) := by decide +kernel
theorem dX11_isMixed_124 : decode cX11_isMixed 124 = .ok (.goto 4, 3) := by decide +kernel
theorem dX11_isMixed_127 : decode cX11_isMixed 127 = .ok (.iconst 0, 1) := by decide +kernel
theorem dX11_isMixed_128 : decode cX11_isMixed 128 = .ok (.istore_n 2, 1) := by decide +kernel
theorem dX11_isMixed_129 : decode cX11_isMixed 129 = .ok (.iinc 6 1, 3) := by decide +kernel
theorem dX11_isMixed_132 : decode cX11_isMixed 132 = .ok (.goto (-37), 3) := by decide +kernel
theorem dX11_isMixed_135 : decode cX11_isMixed 135 = .ok (.iinc 5 1, 3) := by decide +kernel
theorem dX11_isMixed_138 : decode cX11_isMixed 138 = .ok (.goto (-62), 3) := by decide +kernel
theorem dX11_isMixed_141 : decode cX11_isMixed 141 = .ok (.iinc 3 1, 3) := by decide +kernel
theorem dX11_isMixed_144 : decode cX11_isMixed 144 = .ok (.goto (-140), 3) := by decide +kernel
theorem dX11_isMixed_147 : decode cX11_isMixed 147 = .ok (.iload_n 2, 1) := by decide +kernel
theorem dX11_isMixed_148 : decode cX11_isMixed 148 = .ok (.ireturn, 1) := by decide +kernel
theorem dX11_classes_0 : decode cX11_classes 0 = .ok (.aload_n 0, 1) := by decide +kernel
theorem dX11_classes_1 : decode cX11_classes 1 = .ok (.iconst 0, 1) := by decide +kernel
theorem dX11_classes_2 : decode cX11_classes 2 = .ok (.putfield 200, 3) := by decide +kernel
theorem dX11_classes_5 : decode cX11_classes 5 = .ok (.aload_n 0, 1) := by decide +kernel
theorem dX11_classes_6 : decode cX11_classes 6 = .ok (.iconst 0, 1) := by decide +kernel
theorem dX11_classes_7 : decode cX11_classes 7 = .ok (.putfield 196, 3) := by decide +kernel
theorem dX11_classes_10 : decode cX11_classes 10 = .ok (.aload_n 0, 1) := by decide +kernel
theorem dX11_classes_11 : decode cX11_classes 11 = .ok (.iconst 0, 1) := by decide +kernel
theorem dX11_classes_12 : decode cX11_classes 12 = .ok (.putfield 210, 3) := by decide +kernel
theorem dX11_classes_15 : decode cX11_classes 15 = .ok (.iconst 0, 1) := by decide +kernel
theorem dX11_classes_16 : decode cX11_classes 16 = .ok (.istore_n 1, 1) := by decide +kernel
theorem dX11_classes_17 : decode cX11_classes 17 = .ok (.iconst 1, 1) := by decide +kernel
theorem dX11_classes_18 : decode cX11_classes 18 = .ok (.istore_n 2, 1) := by decide +kernel
theorem dX11_classes_19 : decode cX11_classes 19 = .ok (.iload_n 2, 1) := by decide +kernel
theorem dX11_classes_20 : decode cX11_classes 20 = .ok (.ifCond .eq 67, 3) := by decide +kernel
theorem dX11_classes_23 : decode cX11_classes 23 = .ok (.aload_n 0, 1) := by decide +kernel
theorem dX11_classes_24 : decode cX11_classes 24 = .ok (.iload_n 1, 1) := by decide +kernel
theorem dX11_classes_25 : decode cX11_classes 25 = .ok (.invokevirtual 232, 3) := by decide +kernel
theorem dX11_classes_28 : decode cX11_classes 28 = .ok (.iinc 1 1, 3) := by decide +kernel
theorem dX11_classes_31 : decode cX11_classes 31 = .ok (.aload_n 0, 1) := by decide +kernel
theorem dX11_classes_32 : decode cX11_classes 32 = .ok (.getfield 196, 3) := by decide +kernel
theorem dX11_classes_35 : decode cX11_classes 35 = .ok (.ifCond .ne 26, 3) := by decide +kernel
theorem dX11_classes_38 : decode cX11_classes 38 = .ok (.iload_n 1, 1) := by decide +kernel
theorem dX11_classes_39 : decode cX11_classes 39 = .ok (.bipush 6, 2) := by decide +kernel
theorem dX11_classes_41 : decode cX11_classes 41 = .ok (.if_icmp .ge 20, 3) := by decide +kernel
theorem dX11_classes_44 : decode cX11_classes 44 = .ok (.aload_n 0, 1) := by decide +kernel
theorem dX11_classes_45 : decode cX11_classes 45 = .ok (.aload_n 0, 1) := by decide +kernel
theorem dX11_classes_46 : decode cX11_classes 46 = .ok (.getfield 200, 3) := by decide +kernel
theorem dX11_classes_49 : decode cX11_classes 49 = .ok (.invokevirtual 182, 3) := by decide +kernel
theorem dX11_classes_52 : decode cX11_classes 52 = .ok (.bipush 59, 2) := by decide +kernel
theorem dX11_classes_54 : decode cX11_classes 54 = .ok (.if_icmp .ne 7, 3) := by decide +kernel
theorem dX11_classes_57 : decode cX11_classes 57 = .ok (.iconst 1, 1) := by decide +kernel
theorem dX11_classes_58 : decode cX11_classes 58 = .ok (.goto 4, 3) := by decide +kernel
theorem dX11_classes_61 : decode cX11_classes 61 = .ok (.iconst 0, 1) := by decide +kernel
theorem dX11_classes_62 : decode cX11_classes 62 = .ok (.istore_n 2, 1) := by decide +kernel
theorem dX11_classes_63 : decode cX11_classes 63 = .ok (.aload_n 0, 1) := by decide +kernel
theorem dX11_classes_64 : decode cX11_classes 64 = .ok (.iload_n 2, 1) := by decide +kernel
theorem dX11_classes_65 : decode cX11_classes 65 = .ok (.ifCond .eq 12, 3) := by decide +kernel
theorem dX11_classes_68 : decode cX11_classes 68 = .ok (.aload_n 0, 1) := by decide +kernel
theorem dX11_classes_69 : decode cX11_classes 69 = .ok (.getfield 200, 3) := by decide +kernel
theorem dX11_classes_72 : decode cX11_classes 72 = .ok (.iconst 1, 1) := by decide +kernel
theorem dX11_classes_73 : decode cX11_classes 73 = .ok (.iadd, 1) := by decide +kernel
theorem dX11_classes_74 : decode cX11_classes 74 = .ok (.goto 7, 3) := by decide +kernel
theorem dX11_classes_77 : decode cX11_classes 77 = .ok (.aload_n 0, 1) := by decide +kernel
theorem dX11_classes_78 : decode cX11_classes 78 = .ok (.getfield 200, 3) := by decide +kernel
theorem dX11_classes_81 : decode cX11_classes 81 = .ok (.putfield 200, 3) := by decide +kernel
theorem dX11_classes_84 : decode cX11_classes 84 = .ok (.goto (-65), 3) := by decide +kernel
theorem dX11_classes_87 : decode cX11_classes 87 = .ok (.aload_n 0, 1) := by decide +kernel
theorem dX11_classes_88 : decode cX11_classes 88 = .ok (.aload_n 0, 1) := by decide +kernel
theorem dX11_classes_89 : decode cX11_classes 89 = .ok (.getfield 200, 3) := by decide +kernel
theorem dX11_classes_92 : decode cX11_classes 92 = .ok (.aload_n 0, 1) := by decide +kernel
theorem dX11_classes_93 : decode cX11_classes 93 = .ok (.getfield 171, 3) := by decide +kernel
theorem dX11_classes_96 : decode cX11_classes 96 = .ok (.if_icmp .ne 7, 3) := by decide +kernel
theorem dX11_classes_99 : decode cX11_classes 99 = .ok (.iconst 1, 1) := by decide +kernel
theorem dX11_classes_100 : decode cX11_classes 100 = .ok (.goto 4, 3) := by decide +kernel
theorem dX11_classes_103 : decode cX11_classes 103 = .ok (.iconst 0, 1) := by decide +kernel
theorem dX11_classes_104 : decode cX11_classes 104 = .ok (.invokevirtual 213, 3) := by decide +kernel
theorem dX11_classes_107 : decode cX11_classes 107 = .ok (.aload_n 0, 1) := by decide +kernel
theorem dX11_classes_108 : decode cX11_classes 108 = .ok (.getfield 196, 3) := by decide +kernel
theorem dX11_classes_111 : decode cX11_classes 111 = .ok (.ifCond .ne 31, 3) := by decide +kernel
theorem dX11_classes_114 : decode cX11_classes 114 = .ok (.aload_n 0, 1) := by decide +kernel
theorem dX11_classes_115 : decode cX11_classes 115 = .ok (.getfield 210, 3) := by decide +kernel
theorem dX11_classes_118 : decode cX11_classes 118 = .ok (.ifCond .ne 11, 3) := by decide +kernel
theorem dX11_classes_121 : decode cX11_classes 121 = .ok (.aload_n 0, 1) := by decide +kernel
theorem dX11_classes_122 : decode cX11_classes 122 = .ok (.iload_n 1, 1) := by decide +kernel
theorem dX11_classes_123 : decode cX11_classes 123 = .ok (.invokevirtual 235, 3) := by decide +kernel
theorem dX11_classes_126 : decode cX11_classes 126 = .ok (.ifCond .eq 16, 3) := by decide +kernel
theorem dX11_classes_129 : decode cX11_classes 129 = .ok (.aload_n 0, 1) := by decide +kernel
theorem dX11_classes_130 : decode cX11_classes 130 = .ok (.aload_n 0, 1) := by decide +kernel
theorem dX11_classes_131 : decode cX11_classes 131 = .ok (.getfield 171, 3) := by decide +kernel
theorem dX11_classes_134 : decode cX11_classes 134 = .ok (.putfield 200, 3) := by decide +kernel
theorem dX11_classes_137 : decode cX11_classes 137 = .ok (.aload_n 0, 1) := by decide +kernel
theorem dX11_classes_138 : decode cX11_classes 138 = .ok (.iconst 1, 1) := by decide +kernel
theorem dX11_classes_139 : decode cX11_classes 139 = .ok (.putfield 196, 3) := by decide +kernel
theorem dX11_classes_142 : decode cX11_classes 142 = .ok (.aload_n 0, 1) := by decide +kernel
theorem dX11_classes_143 : decode cX11_classes 143 = .ok (.iconst 0, 1) := by decide +kernel
theorem dX11_classes_144 : decode cX11_classes 144 = .ok (.putfield 171, 3) := by decide +kernel
theorem dX11_classes_147 : decode cX11_classes 147 = .ok (.aload_n 0, 1) := by decide +kernel
theorem dX11_classes_148 : decode cX11_classes 148 = .ok (.getfield 196, 3) := by decide +kernel
theorem dX11_classes_151 : decode cX11_classes 151 = .ok (.ifCond .eq 10, 3) := by decide +kernel
theorem dX11_classes_154 : decode cX11_classes 154 = .ok (.iconst (-1), 1) := by decide +kernel
theorem dX11_classes_155 : decode cX11_classes 155 = .ok (.aload_n 0, 1) := by decide +kernel
theorem dX11_classes_156 : decode cX11_classes 156 = .ok (.getfield 200, 3) := by decide +kernel
theorem dX11_classes_159 : decode cX11_classes 159 = .ok (.isub, 1) := by decide +kernel
theorem dX11_classes_160 : decode cX11_classes 160 = .ok (.ireturn, 1) := by decide +kernel
theorem dX11_classes_161 : decode cX11_classes 161 = .ok (.aload_n 0, 1) := by decide +kernel
theorem dX11_classes_162 : decode cX11_classes 162 = .ok (.iload_n 1, 1) := by decide +kernel
theorem dX11_classes_163 : decode cX11_classes 163 = .ok (.putfield 238, 3) := by decide +kernel
theorem dX11_classes_166 : decode cX11_classes 166 = .ok (.iconst 0, 1) := by decide +kernel
theorem dX11_classes_167 : decode cX11_classes 167 = .ok (.istore_n 3, 1) := by decide +kernel
theorem dX11_classes_168 : decode cX11_classes 168 = .ok (.iload_n 3, 1) := by decide +kernel
theorem dX11_classes_169 : decode cX11_classes 169 = .ok (.bipush 30, 2) := by decide +kernel
theorem dX11_classes_171 : decode cX11_classes 171 = .ok (.if_icmp .ge 21, 3) := by decide +kernel
theorem dX11_classes_174 : decode cX11_classes 174 = .ok (.aload_n 0, 1) := by decide +kernel
theorem dX11_classes_175 : decode cX11_classes 175 = .ok (.getfield 16, 3) := by decide +kernel
theorem dX11_classes_178 : decode cX11_classes 178 = .ok (.iload_n 3, 1) := by decide +kernel
theorem dX11_classes_179 : decode cX11_classes 179 = .ok (.aload_n 0, 1) := by decide +kernel
theorem dX11_classes_180 : decode cX11_classes 180 = .ok (.getfield 35, 3) := by decide +kernel
theorem dX11_classes_183 : decode cX11_classes 183 = .ok (.iload_n 3, 1) := by decide +kernel
theorem dX11_classes_184 : decode cX11_classes 184 = .ok (.iaload, 1) := by decide +kernel
theorem dX11_classes_185 : decode cX11_classes 185 = .ok (.iastore, 1) := by decide +kernel
theorem dX11_classes_186 : decode cX11_classes 186 = .ok (.iinc 3 1, 3) := by decide +kernel
theorem dX11_classes_189 : decode cX11_classes 189 = .ok (.goto (-21), 3) := by decide +kernel
theorem dX11_classes_192 : decode cX11_classes 192 = .ok (.iconst 0, 1) := by decide +kernel
theorem dX11_classes_193 : decode cX11_classes 193 = .ok (.istore_n 3, 1) := by decide +kernel
theorem dX11_classes_194 : decode cX11_classes 194 = .ok (.iload_n 3, 1) := by decide +kernel
theorem dX11_classes_195 : decode cX11_classes 195 = .ok (.sipush 240, 3) := by decide +kernel
theorem dX11_classes_198 : decode cX11_classes 198 = .ok (.if_icmp .ge 21, 3) := by decide +kernel
theorem dX11_classes_201 : decode cX11_classes 201 = .ok (.aload_n 0, 1) := by decide +kernel
theorem dX11_classes_202 : decode cX11_classes 202 = .ok (.getfield 19, 3) := by decide +kernel
theorem dX11_classes_205 : decode cX11_classes 205 = .ok (.iload_n 3, 1) := by decide +kernel
theorem dX11_classes_206 : decode cX11_classes 206 = .ok (.aload_n 0, 1) := by decide +kernel
theorem dX11_classes_207 : decode cX11_classes 207 = .ok (.getfield 38, 3) := by decide +kernel
theorem dX11_classes_210 : decode cX11_classes 210 = .ok (.iload_n 3, 1) := by decide +kernel
theorem dX11_classes_211 : decode cX11_classes 211 = .ok (.iaload, 1) := by decide +kernel
theorem dX11_classes_212 : decode cX11_classes 212 = .ok (.iastore, 1) := by decide +kernel
theorem dX11_classes_213 : decode cX11_classes 213 = .ok (.iinc 3 1, 3) := by decide +kernel
theorem dX11_classes_216 : decode cX11_classes 216 = .ok (.goto (-22), 3) := by decide +kernel
theorem dX11_classes_219 : decode cX11_classes 219 = .ok (.iconst 0, 1) := by decide +kernel
theorem dX11_classes_220 : decode cX11_classes 220 = .ok (.istore_n 3, 1) := by decide +kernel
theorem dX11_classes_221 : decode cX11_classes 221 = .ok (.iload_n 3, 1) := by decide +kernel
theorem dX11_classes_222 : decode cX11_classes 222 = .ok (.bipush 24, 2) := by decide +kernel
theorem dX11_classes_224 : decode cX11_classes 224 = .ok (.if_icmp .ge 33, 3) := by decide +kernel
theorem dX11_classes_227 : decode cX11_classes 227 = .ok (.aload_n 0, 1) := by decide +kernel
theorem dX11_classes_228 : decode cX11_classes 228 = .ok (.getfield 22, 3) := by decide +kernel
theorem dX11_classes_231 : decode cX11_classes 231 = .ok (.iload_n 3, 1) := by decide +kernel
theorem dX11_classes_232 : decode cX11_classes 232 = .ok (.aload_n 0, 1) := by decide +kernel
theorem dX11_classes_233 : decode cX11_classes 233 = .ok (.getfield 41, 3) := by decide +kernel
theorem dX11_classes_236 : decode cX11_classes 236 = .ok (.iload_n 3, 1) := by decide +kernel
theorem dX11_classes_237 : decode cX11_classes 237 = .ok (.iaload, 1) := by decide +kernel
theorem dX11_classes_238 : decode cX11_classes 238 = .ok (.iastore, 1) := by decide +kernel
theorem dX11_classes_239 : decode cX11_classes 239 = .ok (.aload_n 0, 1) := by decide +kernel
theorem dX11_classes_240 : decode cX11_classes 240 = .ok (.getfield 25, 3) := by decide +kernel
theorem dX11_classes_243 : decode cX11_classes 243 = .ok (.iload_n 3, 1) := by decide +kernel
theorem dX11_classes_244 : decode cX11_classes 244 = .ok (.aload_n 0, 1) := by decide +kernel
theorem dX11_classes_245 : decode cX11_classes 245 = .ok (.getfield 44, 3) := by decide +kernel
theorem dX11_classes_248 : decode cX11_classes 248 = .ok (.iload_n 3, 1) := by decide +kernel
theorem dX11_classes_249 : decode cX11_classes 249 = .ok (.baload, 1) := by decide +kernel
theorem dX11_classes_250 : decode cX11_classes 250 = .ok (.bastore, 1) := by decide +kernel
theorem dX11_classes_251 : decode cX11_classes 251 = .ok (.iinc 3 1, 3) := by decide +kernel
theorem dX11_classes_254 : decode cX11_classes 254 = .ok (.goto (-33), 3) := by decide +kernel
theorem dX11_classes_257 : decode cX11_classes 257 = .ok (.iconst 0, 1) := by decide +kernel
theorem dX11_classes_258 : decode cX11_classes 258 = .ok (.istore_n 3, 1) := by decide +kernel
theorem dX11_classes_259 : decode cX11_classes 259 = .ok (.iload_n 3, 1) := by decide +kernel
theorem dX11_classes_260 : decode cX11_classes 260 = .ok (.bipush 6, 2) := by decide +kernel
theorem dX11_classes_262 : decode cX11_classes 262 = .ok (.if_icmp .ge 28, 3) := by decide +kernel
theorem dX11_classes_265 : decode cX11_classes 265 = .ok (.aload_n 0, 1) := by decide +kernel
theorem dX11_classes_266 : decode cX11_classes 266 = .ok (.getfield 13, 3) := by decide +kernel
theorem dX11_classes_269 : decode cX11_classes 269 = .ok (.iload_n 3, 1) := by decide +kernel
theorem dX11_classes_270 : decode cX11_classes 270 = .ok (.aload_n 0, 1) := by decide +kernel
theorem dX11_classes_271 : decode cX11_classes 271 = .ok (.getfield 32, 3) := by decide +kernel
theorem dX11_classes_274 : decode cX11_classes 274 = .ok (.iload_n 3, 1) := by decide +kernel
theorem dX11_classes_275 : decode cX11_classes 275 = .ok (.iaload, 1) := by decide +kernel
theorem dX11_classes_276 : decode cX11_classes 276 = .ok (.iastore, 1) := by decide +kernel
theorem dX11_classes_277 : decode cX11_classes 277 = .ok (.aload_n 0, 1) := by decide +kernel
theorem dX11_classes_278 : decode cX11_classes 278 = .ok (.getfield 29, 3) := by decide +kernel
theorem dX11_classes_281 : decode cX11_classes 281 = .ok (.iload_n 3, 1) := by decide +kernel
theorem dX11_classes_282 : decode cX11_classes 282 = .ok (.iconst 0, 1) := by decide +kernel
theorem dX11_classes_283 : decode cX11_classes 283 = .ok (.bastore, 1) := by decide +kernel
theorem dX11_classes_284 : decode cX11_classes 284 = .ok (.iinc 3 1, 3) := by decide +kernel
theorem dX11_classes_287 : decode cX11_classes 287 = .ok (.goto (-28), 3) := by decide +kernel
theorem dX11_classes_290 : decode cX11_classes 290 = .ok (.aload_n 0, 1) := by decide +kernel
theorem dX11_classes_291 : decode cX11_classes 291 = .ok (.getfield 47, 3) := by decide +kernel
theorem dX11_classes_294 : decode cX11_classes 294 = .ok (.iconst 0, 1) := by decide +kernel
theorem dX11_classes_295 : decode cX11_classes 295 = .ok (.iconst 0, 1) := by decide +kernel
theorem dX11_classes_296 : decode cX11_classes 296 = .ok (.iastore, 1) := by decide +kernel
theorem dX11_classes_297 : decode cX11_classes 297 = .ok (.aload_n 0, 1) := by decide +kernel
theorem dX11_classes_298 : decode cX11_classes 298 = .ok (.getfield 47, 3) := by decide +kernel
theorem dX11_classes_301 : decode cX11_classes 301 = .ok (.iconst 1, 1) := by decide +kernel
theorem dX11_classes_302 : decode cX11_classes 302 = .ok (.iconst 0, 1) := by decide +kernel
theorem dX11_classes_303 : decode cX11_classes 303 = .ok (.iastore, 1) := by decide +kernel
theorem dX11_classes_304 : decode cX11_classes 304 = .ok (.aload_n 0, 1) := by decide +kernel
theorem dX11_classes_305 : decode cX11_classes 305 = .ok (.iconst 0, 1) := by decide +kernel
theorem dX11_classes_306 : decode cX11_classes 306 = .ok (.putfield 241, 3) := by decide +kernel
theorem dX11_classes_309 : decode cX11_classes 309 = .ok (.aload_n 0, 1) := by decide +kernel
theorem dX11_classes_310 : decode cX11_classes 310 = .ok (.iconst 0, 1) := by decide +kernel
theorem dX11_classes_311 : decode cX11_classes 311 = .ok (.putfield 244, 3) := by decide +kernel
theorem dX11_classes_314 : decode cX11_classes 314 = .ok (.iload_n 1, 1) := by decide +kernel
theorem dX11_classes_315 : decode cX11_classes 315 = .ok (.ireturn, 1) := by decide +kernel
theorem dX11_object_0 : decode cX11_object 0 = .ok (.bipush 30, 2) := by decide +kernel
theorem dX11_object_2 : decode cX11_object 2 = .ok (.iload_n 1, 1) := by decide +kernel
theorem dX11_object_3 : decode cX11_object 3 = .ok (.imul, 1) := by decide +kernel
theorem dX11_object_4 : decode cX11_object 4 = .ok (.aload_n 0, 1) := by decide +kernel
theorem dX11_object_5 : decode cX11_object 5 = .ok (.getfield 47, 3) := by decide +kernel
theorem dX11_object_8 : decode cX11_object 8 = .ok (.iload_n 1, 1) := by decide +kernel
theorem dX11_object_9 : decode cX11_object 9 = .ok (.iaload, 1) := by decide +kernel
theorem dX11_object_10 : decode cX11_object 10 = .ok (.iadd, 1) := by decide +kernel
theorem dX11_object_11 : decode cX11_object 11 = .ok (.istore_n 3, 1) := by decide +kernel
theorem dX11_object_12 : decode cX11_object 12 = .ok (.aload_n 0, 1) := by decide +kernel
theorem dX11_object_13 : decode cX11_object 13 = .ok (.getfield 47, 3) := by decide +kernel
theorem dX11_object_16 : decode cX11_object 16 = .ok (.iload_n 1, 1) := by decide +kernel
theorem dX11_object_17 : decode cX11_object 17 = .ok (.dup2, 1) := by decide +kernel
theorem dX11_object_18 : decode cX11_object 18 = .ok (.iaload, 1) := by decide +kernel
theorem dX11_object_19 : decode cX11_object 19 = .ok (.iconst 1, 1) := by decide +kernel
theorem dX11_object_20 : decode cX11_object 20 = .ok (.iadd, 1) := by decide +kernel
theorem dX11_object_21 : decode cX11_object 21 = .ok (.iastore, 1) := by decide +kernel
theorem dX11_object_22 : decode cX11_object 22 = .ok (.aload_n 0, 1) := by decide +kernel
theorem dX11_object_23 : decode cX11_object 23 = .ok (.getfield 50, 3) := by decide +kernel
theorem dX11_object_26 : decode cX11_object 26 = .ok (.iload_n 3, 1) := by decide +kernel
theorem dX11_object_27 : decode cX11_object 27 = .ok (.iload_n 2, 1) := by decide +kernel
theorem dX11_object_28 : decode cX11_object 28 = .ok (.iastore, 1) := by decide +kernel
theorem dX11_object_29 : decode cX11_object 29 = .ok (.iconst 0, 1) := by decide +kernel
theorem dX11_object_30 : decode cX11_object 30 = .ok (.istore 4, 2) := by decide +kernel
theorem dX11_object_32 : decode cX11_object 32 = .ok (.iload 4, 2) := by decide +kernel
theorem dX11_object_34 : decode cX11_object 34 = .ok (.iconst 4, 1) := by decide +kernel
theorem dX11_object_35 : decode cX11_object 35 = .ok (.if_icmp .ge 53, 3) := by decide +kernel
theorem dX11_object_38 : decode cX11_object 38 = .ok (.aload_n 0, 1) := by decide +kernel
theorem dX11_object_39 : decode cX11_object 39 = .ok (.getfield 22, 3) := by decide +kernel
theorem dX11_object_42 : decode cX11_object 42 = .ok (.iconst 4, 1) := by decide +kernel
theorem dX11_object_43 : decode cX11_object 43 = .ok (.iload_n 2, 1) := by decide +kernel
theorem dX11_object_44 : decode cX11_object 44 = .ok (.imul, 1) := by decide +kernel
theorem dX11_object_45 : decode cX11_object 45 = .ok (.iload 4, 2) := by decide +kernel
theorem dX11_object_47 : decode cX11_object 47 = .ok (.iadd, 1) := by decide +kernel
theorem dX11_object_48 : decode cX11_object 48 = .ok (.iaload, 1) := by decide +kernel
theorem dX11_object_49 : decode cX11_object 49 = .ok (.iconst 2, 1) := by decide +kernel
theorem dX11_object_50 : decode cX11_object 50 = .ok (.if_icmp .ne 7, 3) := by decide +kernel
theorem dX11_object_53 : decode cX11_object 53 = .ok (.iconst 1, 1) := by decide +kernel
theorem dX11_object_54 : decode cX11_object 54 = .ok (.goto 4, 3) := by decide +kernel
theorem dX11_object_57 : decode cX11_object 57 = .ok (.iconst 0, 1) := by decide +kernel
theorem dX11_object_58 : decode cX11_object 58 = .ok (.istore 5, 2) := by decide +kernel
theorem dX11_object_60 : decode cX11_object 60 = .ok (.aload_n 0, 1) := by decide +kernel
theorem dX11_object_61 : decode cX11_object 61 = .ok (.getfield 53, 3) := by decide +kernel
theorem dX11_object_64 : decode cX11_object 64 = .ok (.iconst 4, 1) := by decide +kernel
theorem dX11_object_65 : decode cX11_object 65 = .ok (.iload_n 3, 1) := by decide +kernel
theorem dX11_object_66 : decode cX11_object 66 = .ok (.imul, 1) := by decide +kernel
theorem dX11_object_67 : decode cX11_object 67 = .ok (.iload 4, 2) := by decide +kernel
theorem dX11_object_69 : decode cX11_object 69 = .ok (.iadd, 1) := by decide +kernel
theorem dX11_object_70 : decode cX11_object 70 = .ok (.iload 5, 2) := by decide +kernel
theorem dX11_object_72 : decode cX11_object 72 = .ok (.ifCond .eq 8, 3) := by decide +kernel
theorem dX11_object_75 : decode cX11_object 75 = .ok (.bipush (-2), 2) := by decide +kernel
theorem dX11_object_77 : decode cX11_object 77 = .ok (.goto 4, 3) := by decide +kernel
theorem dX11_object_80 : decode cX11_object 80 = .ok (.iconst 0, 1) := by decide +kernel
theorem dX11_object_81 : decode cX11_object 81 = .ok (.iastore, 1) := by decide +kernel
theorem dX11_object_82 : decode cX11_object 82 = .ok (.iinc 4 1, 3) := by decide +kernel
theorem dX11_object_85 : decode cX11_object 85 = .ok (.goto (-53), 3) := by decide +kernel
theorem dX11_object_88 : decode cX11_object 88 = .ok (.iload_n 3, 1) := by decide +kernel
theorem dX11_object_89 : decode cX11_object 89 = .ok (.ireturn, 1) := by decide +kernel
theorem dX11_isObject_0 : decode cX11_isObject 0 = .ok (.iload_n 2, 1) := by decide +kernel
theorem dX11_isObject_1 : decode cX11_isObject 1 = .ok (.ifCond .lt 17, 3) := by decide +kernel
theorem dX11_isObject_4 : decode cX11_isObject 4 = .ok (.iload_n 2, 1) := by decide +kernel
theorem dX11_isObject_5 : decode cX11_isObject 5 = .ok (.aload_n 0, 1) := by decide +kernel
theorem dX11_isObject_6 : decode cX11_isObject 6 = .ok (.getfield 47, 3) := by decide +kernel
theorem dX11_isObject_9 : decode cX11_isObject 9 = .ok (.iload_n 1, 1) := by decide +kernel
theorem dX11_isObject_10 : decode cX11_isObject 10 = .ok (.iaload, 1) := by decide +kernel
theorem dX11_isObject_11 : decode cX11_isObject 11 = .ok (.if_icmp .ge 7, 3) := by decide +kernel
theorem dX11_isObject_14 : decode cX11_isObject 14 = .ok (.iconst 1, 1) := by decide +kernel
theorem dX11_isObject_15 : decode cX11_isObject 15 = .ok (.goto 4, 3) := by decide +kernel
theorem dX11_isObject_18 : decode cX11_isObject 18 = .ok (.iconst 0, 1) := by decide +kernel
theorem dX11_isObject_19 : decode cX11_isObject 19 = .ok (.ireturn, 1) := by decide +kernel
theorem dX11_kindAt_0 : decode cX11_kindAt 0 = .ok (.iload_n 1, 1) := by decide +kernel
theorem dX11_kindAt_1 : decode cX11_kindAt 1 = .ok (.iconst 0, 1) := by decide +kernel
theorem dX11_kindAt_2 : decode cX11_kindAt 2 = .ok (.iconst 1, 1) := by decide +kernel
theorem dX11_kindAt_3 : decode cX11_kindAt 3 = .ok (.invokestatic 174, 3) := by decide +kernel
theorem dX11_kindAt_6 : decode cX11_kindAt 6 = .ok (.ifCond .eq 12, 3) := by decide +kernel
theorem dX11_kindAt_9 : decode cX11_kindAt 9 = .ok (.aload_n 0, 1) := by decide +kernel
theorem dX11_kindAt_10 : decode cX11_kindAt 10 = .ok (.iload_n 1, 1) := by decide +kernel
theorem dX11_kindAt_11 : decode cX11_kindAt 11 = .ok (.iload_n 2, 1) := by decide +kernel
theorem dX11_kindAt_12 : decode cX11_kindAt 12 = .ok (.invokevirtual 247, 3) := by decide +kernel
theorem dX11_kindAt_15 : decode cX11_kindAt 15 = .ok (.ifCond .ne 5, 3) := by decide +kernel
theorem dX11_kindAt_18 : decode cX11_kindAt 18 = .ok (.iconst (-1), 1) := by decide +kernel
theorem dX11_kindAt_19 : decode cX11_kindAt 19 = .ok (.ireturn, 1) := by decide +kernel
theorem dX11_kindAt_20 : decode cX11_kindAt 20 = .ok (.aload_n 0, 1) := by decide +kernel
theorem dX11_kindAt_21 : decode cX11_kindAt 21 = .ok (.getfield 50, 3) := by decide +kernel
theorem dX11_kindAt_24 : decode cX11_kindAt 24 = .ok (.bipush 30, 2) := by decide +kernel
theorem dX11_kindAt_26 : decode cX11_kindAt 26 = .ok (.iload_n 1, 1) := by decide +kernel
theorem dX11_kindAt_27 : decode cX11_kindAt 27 = .ok (.imul, 1) := by decide +kernel
theorem dX11_kindAt_28 : decode cX11_kindAt 28 = .ok (.iload_n 2, 1) := by decide +kernel
theorem dX11_kindAt_29 : decode cX11_kindAt 29 = .ok (.iadd, 1) := by decide +kernel
theorem dX11_kindAt_30 : decode cX11_kindAt 30 = .ok (.iaload, 1) := by decide +kernel
theorem dX11_kindAt_31 : decode cX11_kindAt 31 = .ok (.istore 4, 2) := by decide +kernel
theorem dX11_kindAt_33 : decode cX11_kindAt 33 = .ok (.iload_n 3, 1) := by decide +kernel
theorem dX11_kindAt_34 : decode cX11_kindAt 34 = .ok (.iconst 0, 1) := by decide +kernel
theorem dX11_kindAt_35 : decode cX11_kindAt 35 = .ok (.aload_n 0, 1) := by decide +kernel
theorem dX11_kindAt_36 : decode cX11_kindAt 36 = .ok (.getfield 13, 3) := by decide +kernel
theorem dX11_kindAt_39 : decode cX11_kindAt 39 = .ok (.iload 4, 2) := by decide +kernel
theorem dX11_kindAt_41 : decode cX11_kindAt 41 = .ok (.iaload, 1) := by decide +kernel
theorem dX11_kindAt_42 : decode cX11_kindAt 42 = .ok (.iconst 1, 1) := by decide +kernel
theorem dX11_kindAt_43 : decode cX11_kindAt 43 = .ok (.isub, 1) := by decide +kernel
theorem dX11_kindAt_44 : decode cX11_kindAt 44 = .ok (.invokestatic 174, 3) := by decide +kernel
theorem dX11_kindAt_47 : decode cX11_kindAt 47 = .ok (.ifCond .eq 17, 3) := by decide +kernel
theorem dX11_kindAt_50 : decode cX11_kindAt 50 = .ok (.aload_n 0, 1) := by decide +kernel
theorem dX11_kindAt_51 : decode cX11_kindAt 51 = .ok (.getfield 22, 3) := by decide +kernel
theorem dX11_kindAt_54 : decode cX11_kindAt 54 = .ok (.iconst 4, 1) := by decide +kernel
theorem dX11_kindAt_55 : decode cX11_kindAt 55 = .ok (.iload 4, 2) := by decide +kernel
theorem dX11_kindAt_57 : decode cX11_kindAt 57 = .ok (.imul, 1) := by decide +kernel
theorem dX11_kindAt_58 : decode cX11_kindAt 58 = .ok (.iload_n 3, 1) := by decide +kernel
theorem dX11_kindAt_59 : decode cX11_kindAt 59 = .ok (.iadd, 1) := by decide +kernel
theorem dX11_kindAt_60 : decode cX11_kindAt 60 = .ok (.iaload, 1) := by decide +kernel
theorem dX11_kindAt_61 : decode cX11_kindAt 61 = .ok (.goto 4, 3) := by decide +kernel
theorem dX11_kindAt_64 : decode cX11_kindAt 64 = .ok (.iconst (-1), 1) := by decide +kernel
theorem dX11_kindAt_65 : decode cX11_kindAt 65 = .ok (.ireturn, 1) := by decide +kernel
theorem dX11_make_0 : decode cX11_make 0 = .ok (.iload_n 1, 1) := by decide +kernel
theorem dX11_make_1 : decode cX11_make 1 = .ok (.iconst 0, 1) := by decide +kernel
theorem dX11_make_2 : decode cX11_make 2 = .ok (.aload_n 0, 1) := by decide +kernel
theorem dX11_make_3 : decode cX11_make 3 = .ok (.getfield 238, 3) := by decide +kernel
theorem dX11_make_6 : decode cX11_make 6 = .ok (.iconst 1, 1) := by decide +kernel
theorem dX11_make_7 : decode cX11_make 7 = .ok (.isub, 1) := by decide +kernel
theorem dX11_make_8 : decode cX11_make 8 = .ok (.invokestatic 174, 3) := by decide +kernel
theorem dX11_make_11 : decode cX11_make 11 = .ok (.ifCond .eq 14, 3) := by decide +kernel
theorem dX11_make_14 : decode cX11_make 14 = .ok (.aload_n 0, 1) := by decide +kernel
theorem dX11_make_15 : decode cX11_make 15 = .ok (.getfield 47, 3) := by decide +kernel
theorem dX11_make_18 : decode cX11_make 18 = .ok (.iconst 0, 1) := by decide +kernel
theorem dX11_make_19 : decode cX11_make 19 = .ok (.iaload, 1) := by decide +kernel
theorem dX11_make_20 : decode cX11_make 20 = .ok (.bipush 30, 2) := by decide +kernel
theorem dX11_make_22 : decode cX11_make 22 = .ok (.if_icmp .ne 5, 3) := by decide +kernel
theorem dX11_make_25 : decode cX11_make 25 = .ok (.iconst (-1), 1) := by decide +kernel
theorem dX11_make_26 : decode cX11_make 26 = .ok (.ireturn, 1) := by decide +kernel
theorem dX11_make_27 : decode cX11_make 27 = .ok (.aload_n 0, 1) := by decide +kernel
theorem dX11_make_28 : decode cX11_make 28 = .ok (.iconst 0, 1) := by decide +kernel
theorem dX11_make_29 : decode cX11_make 29 = .ok (.iload_n 1, 1) := by decide +kernel
theorem dX11_make_30 : decode cX11_make 30 = .ok (.invokevirtual 250, 3) := by decide +kernel
theorem dX11_make_33 : decode cX11_make 33 = .ok (.ireturn, 1) := by decide +kernel
theorem dX11_set_0 : decode cX11_set 0 = .ok (.aload_n 0, 1) := by decide +kernel
theorem dX11_set_1 : decode cX11_set 1 = .ok (.iconst 0, 1) := by decide +kernel
theorem dX11_set_2 : decode cX11_set 2 = .ok (.iload_n 1, 1) := by decide +kernel
theorem dX11_set_3 : decode cX11_set 3 = .ok (.iload_n 2, 1) := by decide +kernel
theorem dX11_set_4 : decode cX11_set 4 = .ok (.invokevirtual 253, 3) := by decide +kernel
theorem dX11_set_7 : decode cX11_set 7 = .ok (.istore 4, 2) := by decide +kernel
theorem dX11_set_9 : decode cX11_set 9 = .ok (.iload 4, 2) := by decide +kernel
theorem dX11_set_11 : decode cX11_set 11 = .ok (.ifCond .eq 26, 3) := by decide +kernel
theorem dX11_set_14 : decode cX11_set 14 = .ok (.iload 4, 2) := by decide +kernel
theorem dX11_set_16 : decode cX11_set 16 = .ok (.iconst 2, 1) := by decide +kernel
theorem dX11_set_17 : decode cX11_set 17 = .ok (.if_icmp .ne 18, 3) := by decide +kernel
theorem dX11_set_20 : decode cX11_set 20 = .ok (.iload_n 3, 1) := by decide +kernel
theorem dX11_set_21 : decode cX11_set 21 = .ok (.bipush (-2), 2) := by decide +kernel
theorem dX11_set_23 : decode cX11_set 23 = .ok (.if_icmp .eq 14, 3) := by decide +kernel
theorem dX11_set_26 : decode cX11_set 26 = .ok (.aload_n 0, 1) := by decide +kernel
theorem dX11_set_27 : decode cX11_set 27 = .ok (.iconst 0, 1) := by decide +kernel
theorem dX11_set_28 : decode cX11_set 28 = .ok (.iload_n 3, 1) := by decide +kernel
theorem dX11_set_29 : decode cX11_set 29 = .ok (.invokevirtual 247, 3) := by decide +kernel
theorem dX11_set_32 : decode cX11_set 32 = .ok (.ifCond .ne 5, 3) := by decide +kernel
theorem dX11_set_35 : decode cX11_set 35 = .ok (.iconst 0, 1) := by decide +kernel
theorem dX11_set_36 : decode cX11_set 36 = .ok (.ireturn, 1) := by decide +kernel
theorem dX11_set_37 : decode cX11_set 37 = .ok (.aload_n 0, 1) := by decide +kernel
theorem dX11_set_38 : decode cX11_set 38 = .ok (.getfield 53, 3) := by decide +kernel
theorem dX11_set_41 : decode cX11_set 41 = .ok (.iconst 4, 1) := by decide +kernel
theorem dX11_set_42 : decode cX11_set 42 = .ok (.iload_n 1, 1) := by decide +kernel
theorem dX11_set_43 : decode cX11_set 43 = .ok (.imul, 1) := by decide +kernel
theorem dX11_set_44 : decode cX11_set 44 = .ok (.iload_n 2, 1) := by decide +kernel
theorem dX11_set_45 : decode cX11_set 45 = .ok (.iadd, 1) := by decide +kernel
theorem dX11_set_46 : decode cX11_set 46 = .ok (.iload_n 3, 1) := by decide +kernel
theorem dX11_set_47 : decode cX11_set 47 = .ok (.iastore, 1) := by decide +kernel
theorem dX11_set_48 : decode cX11_set 48 = .ok (.iconst 1, 1) := by decide +kernel
theorem dX11_set_49 : decode cX11_set 49 = .ok (.ireturn, 1) := by decide +kernel
theorem dX11_text_0 : decode cX11_text 0 = .ok (.aload_n 0, 1) := by decide +kernel
theorem dX11_text_1 : decode cX11_text 1 = .ok (.iconst 0, 1) := by decide +kernel
theorem dX11_text_2 : decode cX11_text 2 = .ok (.iload_n 1, 1) := by decide +kernel
theorem dX11_text_3 : decode cX11_text 3 = .ok (.iload_n 2, 1) := by decide +kernel
theorem dX11_text_4 : decode cX11_text 4 = .ok (.invokevirtual 253, 3) := by decide +kernel
theorem dX11_text_7 : decode cX11_text 7 = .ok (.iconst 1, 1) := by decide +kernel
theorem dX11_text_8 : decode cX11_text 8 = .ok (.if_icmp .ne 16, 3) := by decide +kernel
theorem dX11_text_11 : decode cX11_text 11 = .ok (.aload_n 0, 1) := by decide +kernel
theorem dX11_text_12 : decode cX11_text 12 = .ok (.getfield 171, 3) := by decide +kernel
theorem dX11_text_15 : decode cX11_text 15 = .ok (.bipush 20, 2) := by decide +kernel
theorem dX11_text_17 : decode cX11_text 17 = .ok (.if_icmp .gt 7, 3) := by decide +kernel
theorem dX11_text_20 : decode cX11_text 20 = .ok (.iconst 1, 1) := by decide +kernel
theorem dX11_text_21 : decode cX11_text 21 = .ok (.goto 4, 3) := by decide +kernel
theorem dX11_text_24 : decode cX11_text 24 = .ok (.iconst 0, 1) := by decide +kernel
theorem dX11_text_25 : decode cX11_text 25 = .ok (.istore_n 3, 1) := by decide +kernel
theorem dX11_text_26 : decode cX11_text 26 = .ok (.iconst 0, 1) := by decide +kernel
theorem dX11_text_27 : decode cX11_text 27 = .ok (.istore 4, 2) := by decide +kernel
theorem dX11_text_29 : decode cX11_text 29 = .ok (.iload 4, 2) := by decide +kernel
theorem dX11_text_31 : decode cX11_text 31 = .ok (.aload_n 0, 1) := by decide +kernel
theorem dX11_text_32 : decode cX11_text 32 = .ok (.getfield 171, 3) := by decide +kernel
theorem dX11_text_35 : decode cX11_text 35 = .ok (.if_icmp .ge 31, 3) := by decide +kernel
theorem dX11_text_38 : decode cX11_text 38 = .ok (.iload_n 3, 1) := by decide +kernel
theorem dX11_text_39 : decode cX11_text 39 = .ok (.ifCond .eq 27, 3) := by decide +kernel
theorem dX11_text_42 : decode cX11_text 42 = .ok (.aload_n 0, 1) := by decide +kernel
theorem dX11_text_43 : decode cX11_text 43 = .ok (.getfield 7, 3) := by decide +kernel
theorem dX11_text_46 : decode cX11_text 46 = .ok (.iload 4, 2) := by decide +kernel
theorem dX11_text_48 : decode cX11_text 48 = .ok (.iaload, 1) := by decide +kernel
theorem dX11_text_49 : decode cX11_text 49 = .ok (.bipush 32, 2) := by decide +kernel
theorem dX11_text_51 : decode cX11_text 51 = .ok (.if_icmp .lt 7, 3) := by decide +kernel
theorem dX11_text_54 : decode cX11_text 54 = .ok (.iconst 1, 1) := by decide +kernel
theorem dX11_text_55 : decode cX11_text 55 = .ok (.goto 4, 3) := by decide +kernel
theorem dX11_text_58 : decode cX11_text 58 = .ok (.iconst 0, 1) := by decide +kernel
theorem dX11_text_59 : decode cX11_text 59 = .ok (.istore_n 3, 1) := by decide +kernel
theorem dX11_text_60 : decode cX11_text 60 = .ok (.iinc 4 1, 3) := by decide +kernel
theorem dX11_text_63 : decode cX11_text 63 = .ok (.goto (-34), 3) := by decide +kernel
theorem dX11_text_66 : decode cX11_text 66 = .ok (.iload_n 3, 1) := by decide +kernel
theorem dX11_text_67 : decode cX11_text 67 = .ok (.ifCond .ne 5, 3) := by decide +kernel
theorem dX11_text_70 : decode cX11_text 70 = .ok (.iconst 0, 1) := by decide +kernel
theorem dX11_text_71 : decode cX11_text 71 = .ok (.ireturn, 1) := by decide +kernel
theorem dX11_text_72 : decode cX11_text 72 = .ok (.iconst 4, 1) := by decide +kernel
theorem dX11_text_73 : decode cX11_text 73 = .ok (.iload_n 1, 1) := by decide +kernel
theorem dX11_text_74 : decode cX11_text 74 = .ok (.imul, 1) := by decide +kernel
theorem dX11_text_75 : decode cX11_text 75 = .ok (.iload_n 2, 1) := by decide +kernel
theorem dX11_text_76 : decode cX11_text 76 = .ok (.iadd, 1) := by decide +kernel
theorem dX11_text_77 : decode cX11_text 77 = .ok (.istore 4, 2) := by decide +kernel
theorem dX11_text_79 : decode cX11_text 79 = .ok (.aload_n 0, 1) := by decide +kernel
theorem dX11_text_80 : decode cX11_text 80 = .ok (.getfield 53, 3) := by decide +kernel
theorem dX11_text_83 : decode cX11_text 83 = .ok (.iload 4, 2) := by decide +kernel
theorem dX11_text_85 : decode cX11_text 85 = .ok (.aload_n 0, 1) := by decide +kernel
theorem dX11_text_86 : decode cX11_text 86 = .ok (.getfield 171, 3) := by decide +kernel
theorem dX11_text_89 : decode cX11_text 89 = .ok (.iastore, 1) := by decide +kernel
theorem dX11_text_90 : decode cX11_text 90 = .ok (.iconst 0, 1) := by decide +kernel
theorem dX11_text_91 : decode cX11_text 91 = .ok (.istore 5, 2) := by decide +kernel
theorem dX11_text_93 : decode cX11_text 93 = .ok (.iload 5, 2) := by decide +kernel
theorem dX11_text_95 : decode cX11_text 95 = .ok (.aload_n 0, 1) := by decide +kernel
theorem dX11_text_96 : decode cX11_text 96 = .ok (.getfield 171, 3) := by decide +kernel
theorem dX11_text_99 : decode cX11_text 99 = .ok (.if_icmp .ge 29, 3) := by decide +kernel
theorem dX11_text_102 : decode cX11_text 102 = .ok (.aload_n 0, 1) := by decide +kernel
theorem dX11_text_103 : decode cX11_text 103 = .ok (.getfield 56, 3) := by decide +kernel
theorem dX11_text_106 : decode cX11_text 106 = .ok (.bipush 20, 2) := by decide +kernel
theorem dX11_text_108 : decode cX11_text 108 = .ok (.iload 4, 2) := by decide +kernel
theorem dX11_text_110 : decode cX11_text 110 = .ok (.imul, 1) := by decide +kernel
theorem dX11_text_111 : decode cX11_text 111 = .ok (.iload 5, 2) := by decide +kernel
theorem dX11_text_113 : decode cX11_text 113 = .ok (.iadd, 1) := by decide +kernel
theorem dX11_text_114 : decode cX11_text 114 = .ok (.aload_n 0, 1) := by decide +kernel
theorem dX11_text_115 : decode cX11_text 115 = .ok (.getfield 7, 3) := by decide +kernel
theorem dX11_text_118 : decode cX11_text 118 = .ok (.iload 5, 2) := by decide +kernel
theorem dX11_text_120 : decode cX11_text 120 = .ok (.iaload, 1) := by decide +kernel
theorem dX11_text_121 : decode cX11_text 121 = .ok (.iastore, 1) := by decide +kernel
theorem dX11_text_122 : decode cX11_text 122 = .ok (.iinc 5 1, 3) := by decide +kernel
theorem dX11_text_125 : decode cX11_text 125 = .ok (.goto (-32), 3) := by decide +kernel
theorem dX11_text_128 : decode cX11_text 128 = .ok (.aload_n 0, 1) := by decide +kernel
theorem dX11_text_129 : decode cX11_text 129 = .ok (.iconst 0, 1) := by decide +kernel
theorem dX11_text_130 : decode cX11_text 130 = .ok (.putfield 171, 3) := by decide +kernel
theorem dX11_text_133 : decode cX11_text 133 = .ok (.iconst 1, 1) := by decide +kernel
theorem dX11_text_134 : decode cX11_text 134 = .ok (.ireturn, 1) := by decide +kernel
theorem dX11_add_0 : decode cX11_add 0 = .ok (.iconst 4, 1) := by decide +kernel
theorem dX11_add_1 : decode cX11_add 1 = .ok (.iload_n 1, 1) := by decide +kernel
theorem dX11_add_2 : decode cX11_add 2 = .ok (.imul, 1) := by decide +kernel
theorem dX11_add_3 : decode cX11_add 3 = .ok (.iload_n 2, 1) := by decide +kernel
theorem dX11_add_4 : decode cX11_add 4 = .ok (.iadd, 1) := by decide +kernel
theorem dX11_add_5 : decode cX11_add 5 = .ok (.istore 4, 2) := by decide +kernel
theorem dX11_add_7 : decode cX11_add 7 = .ok (.aload_n 0, 1) := by decide +kernel
theorem dX11_add_8 : decode cX11_add 8 = .ok (.iconst 0, 1) := by decide +kernel
theorem dX11_add_9 : decode cX11_add 9 = .ok (.iload_n 1, 1) := by decide +kernel
theorem dX11_add_10 : decode cX11_add 10 = .ok (.iload_n 2, 1) := by decide +kernel
theorem dX11_add_11 : decode cX11_add 11 = .ok (.invokevirtual 253, 3) := by decide +kernel
theorem dX11_add_14 : decode cX11_add 14 = .ok (.iconst 3, 1) := by decide +kernel
theorem dX11_add_15 : decode cX11_add 15 = .ok (.if_icmp .ne 24, 3) := by decide +kernel
theorem dX11_add_18 : decode cX11_add 18 = .ok (.aload_n 0, 1) := by decide +kernel
theorem dX11_add_19 : decode cX11_add 19 = .ok (.iconst 0, 1) := by decide +kernel
theorem dX11_add_20 : decode cX11_add 20 = .ok (.iload_n 3, 1) := by decide +kernel
theorem dX11_add_21 : decode cX11_add 21 = .ok (.invokevirtual 247, 3) := by decide +kernel
theorem dX11_add_24 : decode cX11_add 24 = .ok (.ifCond .eq 15, 3) := by decide +kernel
theorem dX11_add_27 : decode cX11_add 27 = .ok (.aload_n 0, 1) := by decide +kernel
theorem dX11_add_28 : decode cX11_add 28 = .ok (.getfield 53, 3) := by decide +kernel
theorem dX11_add_31 : decode cX11_add 31 = .ok (.iload 4, 2) := by decide +kernel
theorem dX11_add_33 : decode cX11_add 33 = .ok (.iaload, 1) := by decide +kernel
theorem dX11_add_34 : decode cX11_add 34 = .ok (.bipush 8, 2) := by decide +kernel
theorem dX11_add_36 : decode cX11_add 36 = .ok (.if_icmp .ne 5, 3) := by decide +kernel
theorem dX11_add_39 : decode cX11_add 39 = .ok (.iconst (-1), 1) := by decide +kernel
theorem dX11_add_40 : decode cX11_add 40 = .ok (.ireturn, 1) := by decide +kernel
theorem dX11_add_41 : decode cX11_add 41 = .ok (.aload_n 0, 1) := by decide +kernel
theorem dX11_add_42 : decode cX11_add 42 = .ok (.getfield 56, 3) := by decide +kernel
theorem dX11_add_45 : decode cX11_add 45 = .ok (.bipush 20, 2) := by decide +kernel
theorem dX11_add_47 : decode cX11_add 47 = .ok (.iload 4, 2) := by decide +kernel
theorem dX11_add_49 : decode cX11_add 49 = .ok (.imul, 1) := by decide +kernel
theorem dX11_add_50 : decode cX11_add 50 = .ok (.aload_n 0, 1) := by decide +kernel
theorem dX11_add_51 : decode cX11_add 51 = .ok (.getfield 53, 3) := by decide +kernel
theorem dX11_add_54 : decode cX11_add 54 = .ok (.iload 4, 2) := by decide +kernel
theorem dX11_add_56 : decode cX11_add 56 = .ok (.iaload, 1) := by decide +kernel
theorem dX11_add_57 : decode cX11_add 57 = .ok (.iadd, 1) := by decide +kernel
theorem dX11_add_58 : decode cX11_add 58 = .ok (.iload_n 3, 1) := by decide +kernel
theorem dX11_add_59 : decode cX11_add 59 = .ok (.iastore, 1) := by decide +kernel
theorem dX11_add_60 : decode cX11_add 60 = .ok (.aload_n 0, 1) := by decide +kernel
theorem dX11_add_61 : decode cX11_add 61 = .ok (.getfield 53, 3) := by decide +kernel
theorem dX11_add_64 : decode cX11_add 64 = .ok (.iload 4, 2) := by decide +kernel
theorem dX11_add_66 : decode cX11_add 66 = .ok (.dup2, 1) := by decide +kernel
theorem dX11_add_67 : decode cX11_add 67 = .ok (.iaload, 1) := by decide +kernel
theorem dX11_add_68 : decode cX11_add 68 = .ok (.iconst 1, 1) := by decide +kernel
theorem dX11_add_69 : decode cX11_add 69 = .ok (.iadd, 1) := by decide +kernel
theorem dX11_add_70 : decode cX11_add 70 = .ok (.iastore, 1) := by decide +kernel
theorem dX11_add_71 : decode cX11_add 71 = .ok (.aload_n 0, 1) := by decide +kernel
theorem dX11_add_72 : decode cX11_add 72 = .ok (.getfield 53, 3) := by decide +kernel
theorem dX11_add_75 : decode cX11_add 75 = .ok (.iload 4, 2) := by decide +kernel
theorem dX11_add_77 : decode cX11_add 77 = .ok (.iaload, 1) := by decide +kernel
theorem dX11_add_78 : decode cX11_add 78 = .ok (.ireturn, 1) := by decide +kernel
theorem dX11_limit_0 : decode cX11_limit 0 = .ok (.iload_n 1, 1) := by decide +kernel
theorem dX11_limit_1 : decode cX11_limit 1 = .ok (.iconst 1, 1) := by decide +kernel
theorem dX11_limit_2 : decode cX11_limit 2 = .ok (.bipush 20, 2) := by decide +kernel
theorem dX11_limit_4 : decode cX11_limit 4 = .ok (.invokestatic 174, 3) := by decide +kernel
theorem dX11_limit_7 : decode cX11_limit 7 = .ok (.ifCond .ne 5, 3) := by decide +kernel
theorem dX11_limit_10 : decode cX11_limit 10 = .ok (.iconst (-1), 1) := by decide +kernel
theorem dX11_limit_11 : decode cX11_limit 11 = .ok (.ireturn, 1) := by decide +kernel
theorem dX11_limit_12 : decode cX11_limit 12 = .ok (.aload_n 0, 1) := by decide +kernel
theorem dX11_limit_13 : decode cX11_limit 13 = .ok (.getfield 59, 3) := by decide +kernel
theorem dX11_limit_16 : decode cX11_limit 16 = .ok (.istore_n 2, 1) := by decide +kernel
theorem dX11_limit_17 : decode cX11_limit 17 = .ok (.aload_n 0, 1) := by decide +kernel
theorem dX11_limit_18 : decode cX11_limit 18 = .ok (.iload_n 1, 1) := by decide +kernel
theorem dX11_limit_19 : decode cX11_limit 19 = .ok (.putfield 59, 3) := by decide +kernel
theorem dX11_limit_22 : decode cX11_limit 22 = .ok (.iload_n 2, 1) := by decide +kernel
theorem dX11_limit_23 : decode cX11_limit 23 = .ok (.ireturn, 1) := by decide +kernel
theorem dX11_put_0 : decode cX11_put 0 = .ok (.aload_n 0, 1) := by decide +kernel
theorem dX11_put_1 : decode cX11_put 1 = .ok (.getfield 257, 3) := by decide +kernel
theorem dX11_put_4 : decode cX11_put 4 = .ok (.sipush 3000, 3) := by decide +kernel
theorem dX11_put_7 : decode cX11_put 7 = .ok (.if_icmp .gt 23, 3) := by decide +kernel
theorem dX11_put_10 : decode cX11_put 10 = .ok (.aload_n 0, 1) := by decide +kernel
theorem dX11_put_11 : decode cX11_put 11 = .ok (.getfield 99, 3) := by decide +kernel
theorem dX11_put_14 : decode cX11_put 14 = .ok (.aload_n 0, 1) := by decide +kernel
theorem dX11_put_15 : decode cX11_put 15 = .ok (.getfield 257, 3) := by decide +kernel
theorem dX11_put_18 : decode cX11_put 18 = .ok (.iload_n 1, 1) := by decide +kernel
theorem dX11_put_19 : decode cX11_put 19 = .ok (.iastore, 1) := by decide +kernel
theorem dX11_put_20 : decode cX11_put 20 = .ok (.aload_n 0, 1) := by decide +kernel
theorem dX11_put_21 : decode cX11_put 21 = .ok (.dup, 1) := by decide +kernel
theorem dX11_put_22 : decode cX11_put 22 = .ok (.getfield 257, 3) := by decide +kernel
theorem dX11_put_25 : decode cX11_put 25 = .ok (.iconst 1, 1) := by decide +kernel
theorem dX11_put_26 : decode cX11_put 26 = .ok (.iadd, 1) := by decide +kernel
theorem dX11_put_27 : decode cX11_put 27 = .ok (.putfield 257, 3) := by decide +kernel
theorem dX11_put_30 : decode cX11_put 30 = .ok (.return_, 1) := by decide +kernel
theorem dX11_putName_0 : decode cX11_putName 0 = .ok (.iconst 0, 1) := by decide +kernel
theorem dX11_putName_1 : decode cX11_putName 1 = .ok (.istore_n 2, 1) := by decide +kernel
theorem dX11_putName_2 : decode cX11_putName 2 = .ok (.iload_n 2, 1) := by decide +kernel
theorem dX11_putName_3 : decode cX11_putName 3 = .ok (.aload_n 0, 1) := by decide +kernel
theorem dX11_putName_4 : decode cX11_putName 4 = .ok (.getfield 16, 3) := by decide +kernel
theorem dX11_putName_7 : decode cX11_putName 7 = .ok (.iload_n 1, 1) := by decide +kernel
theorem dX11_putName_8 : decode cX11_putName 8 = .ok (.iaload, 1) := by decide +kernel
theorem dX11_putName_9 : decode cX11_putName 9 = .ok (.if_icmp .ge 61, 3) := by decide +kernel
theorem dX11_putName_12 : decode cX11_putName 12 = .ok (.aload_n 0, 1) := by decide +kernel
theorem dX11_putName_13 : decode cX11_putName 13 = .ok (.getfield 19, 3) := by decide +kernel
theorem dX11_putName_16 : decode cX11_putName 16 = .ok (.bipush 8, 2) := by decide +kernel
theorem dX11_putName_18 : decode cX11_putName 18 = .ok (.iload_n 1, 1) := by decide +kernel
theorem dX11_putName_19 : decode cX11_putName 19 = .ok (.imul, 1) := by decide +kernel
theorem dX11_putName_20 : decode cX11_putName 20 = .ok (.iload_n 2, 1) := by decide +kernel
theorem dX11_putName_21 : decode cX11_putName 21 = .ok (.iadd, 1) := by decide +kernel
theorem dX11_putName_22 : decode cX11_putName 22 = .ok (.iaload, 1) := by decide +kernel
theorem dX11_putName_23 : decode cX11_putName 23 = .ok (.istore_n 3, 1) := by decide +kernel
theorem dX11_putName_24 : decode cX11_putName 24 = .ok (.aload_n 0, 1) := by decide +kernel
theorem dX11_putName_25 : decode cX11_putName 25 = .ok (.iload_n 3, 1) := by decide +kernel
theorem dX11_putName_26 : decode cX11_putName 26 = .ok (.bipush 36, 2) := by decide +kernel
theorem dX11_putName_28 : decode cX11_putName 28 = .ok (.if_icmp .ne 8, 3) := by decide +kernel
theorem dX11_putName_31 : decode cX11_putName 31 = .ok (.bipush 95, 2) := by decide +kernel
theorem dX11_putName_33 : decode cX11_putName 33 = .ok (.goto 4, 3) := by decide +kernel
theorem dX11_putName_36 : decode cX11_putName 36 = .ok (.iload_n 3, 1) := by decide +kernel
theorem dX11_putName_37 : decode cX11_putName 37 = .ok (.invokevirtual 260, 3) := by decide +kernel
theorem dX11_putName_40 : decode cX11_putName 40 = .ok (.iload_n 3, 1) := by decide +kernel
theorem dX11_putName_41 : decode cX11_putName 41 = .ok (.bipush 95, 2) := by decide +kernel
theorem dX11_putName_43 : decode cX11_putName 43 = .ok (.if_icmp .ne 9, 3) := by decide +kernel
theorem dX11_putName_46 : decode cX11_putName 46 = .ok (.aload_n 0, 1) := by decide +kernel
theorem dX11_putName_47 : decode cX11_putName 47 = .ok (.bipush 95, 2) := by decide +kernel
theorem dX11_putName_49 : decode cX11_putName 49 = .ok (.invokevirtual 260, 3) := by decide +kernel
theorem dX11_putName_52 : decode cX11_putName 52 = .ok (.iload_n 3, 1) := by decide +kernel
theorem dX11_putName_53 : decode cX11_putName 53 = .ok (.bipush 36, 2) := by decide +kernel
theorem dX11_putName_55 : decode cX11_putName 55 = .ok (.if_icmp .ne 9, 3) := by decide +kernel
theorem dX11_putName_58 : decode cX11_putName 58 = .ok (.aload_n 0, 1) := by decide +kernel
theorem dX11_putName_59 : decode cX11_putName 59 = .ok (.bipush 45, 2) := by decide +kernel
theorem dX11_putName_61 : decode cX11_putName 61 = .ok (.invokevirtual 260, 3) := by decide +kernel
theorem dX11_putName_64 : decode cX11_putName 64 = .ok (.iinc 2 1, 3) := by decide +kernel
theorem dX11_putName_67 : decode cX11_putName 67 = .ok (.goto (-65), 3) := by decide +kernel
theorem dX11_putName_70 : decode cX11_putName 70 = .ok (.return_, 1) := by decide +kernel
theorem dX11_putNumber_0 : decode cX11_putNumber 0 = .ok (.iload_n 1, 1) := by decide +kernel
theorem dX11_putNumber_1 : decode cX11_putNumber 1 = .ok (.ifCond .ge 9, 3) := by decide +kernel
theorem dX11_putNumber_4 : decode cX11_putNumber 4 = .ok (.iload_n 1, 1) := by decide +kernel
theorem dX11_putNumber_5 : decode cX11_putNumber 5 = .ok (.i2l, 1) := by decide +kernel
theorem dX11_putNumber_6 : decode cX11_putNumber 6 = .ok (.lneg, 1) := by decide +kernel
theorem dX11_putNumber_7 : decode cX11_putNumber 7 = .ok (.goto 5, 3) := by decide +kernel
theorem dX11_putNumber_10 : decode cX11_putNumber 10 = .ok (.iload_n 1, 1) := by decide +kernel
theorem dX11_putNumber_11 : decode cX11_putNumber 11 = .ok (.i2l, 1) := by decide +kernel
theorem dX11_putNumber_12 : decode cX11_putNumber 12 = .ok (.lstore_n 2, 1) := by decide +kernel
theorem dX11_putNumber_13 : decode cX11_putNumber 13 = .ok (.iload_n 1, 1) := by decide +kernel
theorem dX11_putNumber_14 : decode cX11_putNumber 14 = .ok (.ifCond .ge 9, 3) := by decide +kernel
theorem dX11_putNumber_17 : decode cX11_putNumber 17 = .ok (.aload_n 0, 1) := by decide +kernel
theorem dX11_putNumber_18 : decode cX11_putNumber 18 = .ok (.bipush 45, 2) := by decide +kernel
theorem dX11_putNumber_20 : decode cX11_putNumber 20 = .ok (.invokevirtual 260, 3) := by decide +kernel
theorem dX11_putNumber_23 : decode cX11_putNumber 23 = .ok (.lconst 1, 1) := by decide +kernel
theorem dX11_putNumber_24 : decode cX11_putNumber 24 = .ok (.lstore 4, 2) := by decide +kernel
theorem dX11_putNumber_26 : decode cX11_putNumber 26 = .ok (.lload_n 2, 1) := by decide +kernel
theorem dX11_putNumber_27 : decode cX11_putNumber 27 = .ok (.lload 4, 2) := by decide +kernel
theorem dX11_putNumber_29 : decode cX11_putNumber 29 = .ok (.ldiv, 1) := by decide +kernel
theorem dX11_putNumber_30 : decode cX11_putNumber 30 = .ok (.ldc2_w 263, 3) := by decide +kernel
theorem dX11_putNumber_33 : decode cX11_putNumber 33 = .ok (.lcmp, 1) := by decide +kernel
theorem dX11_putNumber_34 : decode cX11_putNumber 34 = .ok (.ifCond .le 14, 3) := by decide +kernel
theorem dX11_putNumber_37 : decode cX11_putNumber 37 = .ok (.lload 4, 2) := by decide +kernel
theorem dX11_putNumber_39 : decode cX11_putNumber 39 = .ok (.ldc2_w 265, 3) := by decide +kernel
theorem dX11_putNumber_42 : decode cX11_putNumber 42 = .ok (.lmul, 1) := by decide +kernel
theorem dX11_putNumber_43 : decode cX11_putNumber 43 = .ok (.lstore 4, 2) := by decide +kernel
theorem dX11_putNumber_45 : decode cX11_putNumber 45 = .ok (.goto (-19), 3) := by decide +kernel
theorem dX11_putNumber_48 : decode cX11_putNumber 48 = .ok (.lload 4, 2) := by decide +kernel
theorem dX11_putNumber_50 : decode cX11_putNumber 50 = .ok (.lconst 0, 1) := by decide +kernel
theorem dX11_putNumber_51 : decode cX11_putNumber 51 = .ok (.lcmp, 1) := by decide +kernel
theorem dX11_putNumber_52 : decode cX11_putNumber 52 = .ok (.ifCond .le 30, 3) := by decide +kernel
theorem dX11_putNumber_55 : decode cX11_putNumber 55 = .ok (.aload_n 0, 1) := by decide +kernel
theorem dX11_putNumber_56 : decode cX11_putNumber 56 = .ok (.bipush 48, 2) := by decide +kernel
theorem dX11_putNumber_58 : decode cX11_putNumber 58 = .ok (.lload_n 2, 1) := by decide +kernel
theorem dX11_putNumber_59 : decode cX11_putNumber 59 = .ok (.lload 4, 2) := by decide +kernel
theorem dX11_putNumber_61 : decode cX11_putNumber 61 = .ok (.ldiv, 1) := by decide +kernel
theorem dX11_putNumber_62 : decode cX11_putNumber 62 = .ok (.ldc2_w 265, 3) := by decide +kernel
theorem dX11_putNumber_65 : decode cX11_putNumber 65 = .ok (.lrem, 1) := by decide +kernel
theorem dX11_putNumber_66 : decode cX11_putNumber 66 = .ok (.l2i, 1) := by decide +kernel
theorem dX11_putNumber_67 : decode cX11_putNumber 67 = .ok (.iadd, 1) := by decide +kernel
theorem dX11_putNumber_68 : decode cX11_putNumber 68 = .ok (.invokevirtual 260, 3) := by decide +kernel
theorem dX11_putNumber_71 : decode cX11_putNumber 71 = .ok (.lload 4, 2) := by decide +kernel
theorem dX11_putNumber_73 : decode cX11_putNumber 73 = .ok (.ldc2_w 265, 3) := by decide +kernel
theorem dX11_putNumber_76 : decode cX11_putNumber 76 = .ok (.ldiv, 1) := by decide +kernel
theorem dX11_putNumber_77 : decode cX11_putNumber 77 = .ok (.lstore 4, 2) := by decide +kernel
theorem dX11_putNumber_79 : decode cX11_putNumber 79 = .ok (.goto (-31), 3) := by decide +kernel
theorem dX11_putNumber_82 : decode cX11_putNumber 82 = .ok (.return_, 1) := by decide +kernel
theorem dX11_putWord_0 : decode cX11_putWord 0 = .ok (.aload_n 0, 1) := by decide +kernel
theorem dX11_putWord_1 : decode cX11_putWord 1 = .ok (.iload_n 1, 1) := by decide +kernel
theorem dX11_putWord_2 : decode cX11_putWord 2 = .ok (.invokevirtual 260, 3) := by decide +kernel
theorem dX11_putWord_5 : decode cX11_putWord 5 = .ok (.aload_n 0, 1) := by decide +kernel
theorem dX11_putWord_6 : decode cX11_putWord 6 = .ok (.iload_n 2, 1) := by decide +kernel
theorem dX11_putWord_7 : decode cX11_putWord 7 = .ok (.invokevirtual 260, 3) := by decide +kernel
theorem dX11_putWord_10 : decode cX11_putWord 10 = .ok (.iload_n 3, 1) := by decide +kernel
theorem dX11_putWord_11 : decode cX11_putWord 11 = .ok (.ifCond .le 8, 3) := by decide +kernel
theorem dX11_putWord_14 : decode cX11_putWord 14 = .ok (.aload_n 0, 1) := by decide +kernel
theorem dX11_putWord_15 : decode cX11_putWord 15 = .ok (.iload_n 3, 1) := by decide +kernel
theorem dX11_putWord_16 : decode cX11_putWord 16 = .ok (.invokevirtual 260, 3) := by decide +kernel
theorem dX11_putWord_19 : decode cX11_putWord 19 = .ok (.iload 4, 2) := by decide +kernel
theorem dX11_putWord_21 : decode cX11_putWord 21 = .ok (.ifCond .le 9, 3) := by decide +kernel
theorem dX11_putWord_24 : decode cX11_putWord 24 = .ok (.aload_n 0, 1) := by decide +kernel
theorem dX11_putWord_25 : decode cX11_putWord 25 = .ok (.iload 4, 2) := by decide +kernel
theorem dX11_putWord_27 : decode cX11_putWord 27 = .ok (.invokevirtual 260, 3) := by decide +kernel
theorem dX11_putWord_30 : decode cX11_putWord 30 = .ok (.return_, 1) := by decide +kernel
theorem dX11_putText_0 : decode cX11_putText 0 = .ok (.iconst 0, 1) := by decide +kernel
theorem dX11_putText_1 : decode cX11_putText 1 = .ok (.istore_n 3, 1) := by decide +kernel
theorem dX11_putText_2 : decode cX11_putText 2 = .ok (.iload_n 3, 1) := by decide +kernel
theorem dX11_putText_3 : decode cX11_putText 3 = .ok (.aload_n 0, 1) := by decide +kernel
theorem dX11_putText_4 : decode cX11_putText 4 = .ok (.getfield 53, 3) := by decide +kernel
theorem dX11_putText_7 : decode cX11_putText 7 = .ok (.iload_n 1, 1) := by decide +kernel
theorem dX11_putText_8 : decode cX11_putText 8 = .ok (.iaload, 1) := by decide +kernel
theorem dX11_putText_9 : decode cX11_putText 9 = .ok (.if_icmp .ge 133, 3) := by decide +kernel
theorem dX11_putText_12 : decode cX11_putText 12 = .ok (.aload_n 0, 1) := by decide +kernel
theorem dX11_putText_13 : decode cX11_putText 13 = .ok (.getfield 56, 3) := by decide +kernel
theorem dX11_putText_16 : decode cX11_putText 16 = .ok (.bipush 20, 2) := by decide +kernel
theorem dX11_putText_18 : decode cX11_putText 18 = .ok (.iload_n 1, 1) := by decide +kernel
theorem dX11_putText_19 : decode cX11_putText 19 = .ok (.imul, 1) := by decide +kernel
theorem dX11_putText_20 : decode cX11_putText 20 = .ok (.iload_n 3, 1) := by decide +kernel
theorem dX11_putText_21 : decode cX11_putText 21 = .ok (.iadd, 1) := by decide +kernel
theorem dX11_putText_22 : decode cX11_putText 22 = .ok (.iaload, 1) := by decide +kernel
theorem dX11_putText_23 : decode cX11_putText 23 = .ok (.istore 4, 2) := by decide +kernel
theorem dX11_putText_25 : decode cX11_putText 25 = .ok (.iload 4, 2) := by decide +kernel
theorem dX11_putText_27 : decode cX11_putText 27 = .ok (.bipush 38, 2) := by decide +kernel
theorem dX11_putText_29 : decode cX11_putText 29 = .ok (.if_icmp .ne 24, 3) := by decide +kernel
theorem dX11_putText_32 : decode cX11_putText 32 = .ok (.aload_n 0, 1) := by decide +kernel
theorem dX11_putText_33 : decode cX11_putText 33 = .ok (.bipush 38, 2) := by decide +kernel
theorem dX11_putText_35 : decode cX11_putText 35 = .ok (.bipush 97, 2) := by decide +kernel
theorem dX11_putText_37 : decode cX11_putText 37 = .ok (.bipush 109, 2) := by decide +kernel
theorem dX11_putText_39 : decode cX11_putText 39 = .ok (.bipush 112, 2) := by decide +kernel
theorem dX11_putText_41 : decode cX11_putText 41 = .ok (.invokevirtual 267, 3) := by decide +kernel
theorem dX11_putText_44 : decode cX11_putText 44 = .ok (.aload_n 0, 1) := by decide +kernel
theorem dX11_putText_45 : decode cX11_putText 45 = .ok (.bipush 59, 2) := by decide +kernel
theorem dX11_putText_47 : decode cX11_putText 47 = .ok (.invokevirtual 260, 3) := by decide +kernel
theorem dX11_putText_50 : decode cX11_putText 50 = .ok (.goto 86, 3) := by decide +kernel
theorem dX11_putText_53 : decode cX11_putText 53 = .ok (.iload 4, 2) := by decide +kernel
theorem dX11_putText_55 : decode cX11_putText 55 = .ok (.bipush 60, 2) := by decide +kernel
theorem dX11_putText_57 : decode cX11_putText 57 = .ok (.if_icmp .eq 10, 3) := by decide +kernel
theorem dX11_putText_60 : decode cX11_putText 60 = .ok (.iload 4, 2) := by decide +kernel
theorem dX11_putText_62 : decode cX11_putText 62 = .ok (.bipush 62, 2) := by decide +kernel
theorem dX11_putText_64 : decode cX11_putText 64 = .ok (.if_icmp .ne 30, 3) := by decide +kernel
theorem dX11_putText_67 : decode cX11_putText 67 = .ok (.aload_n 0, 1) := by decide +kernel
theorem dX11_putText_68 : decode cX11_putText 68 = .ok (.bipush 38, 2) := by decide +kernel
theorem dX11_putText_70 : decode cX11_putText 70 = .ok (.iload 4, 2) := by decide +kernel
theorem dX11_putText_72 : decode cX11_putText 72 = .ok (.bipush 60, 2) := by decide +kernel
theorem dX11_putText_74 : decode cX11_putText 74 = .ok (.if_icmp .ne 8, 3) := by decide +kernel
theorem dX11_putText_77 : decode cX11_putText 77 = .ok (.bipush 108, 2) := by decide +kernel
theorem dX11_putText_79 : decode cX11_putText 79 = .ok (.goto 5, 3) := by decide +kernel
theorem dX11_putText_82 : decode cX11_putText 82 = .ok (.bipush 103, 2) := by decide +kernel
theorem dX11_putText_84 : decode cX11_putText 84 = .ok (.bipush 116, 2) := by decide +kernel
theorem dX11_putText_86 : decode cX11_putText 86 = .ok (.bipush 59, 2) := by decide +kernel
theorem dX11_putText_88 : decode cX11_putText 88 = .ok (.invokevirtual 267, 3) := by decide +kernel
theorem dX11_putText_91 : decode cX11_putText 91 = .ok (.goto 45, 3) := by decide +kernel
theorem dX11_putText_94 : decode cX11_putText 94 = .ok (.iload 4, 2) := by decide +kernel
theorem dX11_putText_96 : decode cX11_putText 96 = .ok (.bipush 34, 2) := by decide +kernel
theorem dX11_putText_98 : decode cX11_putText 98 = .ok (.if_icmp .ne 32, 3) := by decide +kernel
theorem dX11_putText_101 : decode cX11_putText 101 = .ok (.iload_n 2, 1) := by decide +kernel
theorem dX11_putText_102 : decode cX11_putText 102 = .ok (.ifCond .eq 28, 3) := by decide +kernel
theorem dX11_putText_105 : decode cX11_putText 105 = .ok (.aload_n 0, 1) := by decide +kernel
theorem dX11_putText_106 : decode cX11_putText 106 = .ok (.bipush 38, 2) := by decide +kernel
theorem dX11_putText_108 : decode cX11_putText 108 = .ok (.bipush 113, 2) := by decide +kernel
theorem dX11_putText_110 : decode cX11_putText 110 = .ok (.bipush 117, 2) := by decide +kernel
theorem dX11_putText_112 : decode cX11_putText 112 = .ok (.bipush 111, 2) := by decide +kernel
theorem dX11_putText_114 : decode cX11_putText 114 = .ok (.invokevirtual 267, 3) := by decide +kernel
theorem dX11_putText_117 : decode cX11_putText 117 = .ok (.aload_n 0, 1) := by decide +kernel
theorem dX11_putText_118 : decode cX11_putText 118 = .ok (.bipush 116, 2) := by decide +kernel
theorem dX11_putText_120 : decode cX11_putText 120 = .ok (.bipush 59, 2) := by decide +kernel
theorem dX11_putText_122 : decode cX11_putText 122 = .ok (.iconst 0, 1) := by decide +kernel
theorem dX11_putText_123 : decode cX11_putText 123 = .ok (.iconst 0, 1) := by decide +kernel
theorem dX11_putText_124 : decode cX11_putText 124 = .ok (.invokevirtual 267, 3) := by decide +kernel
theorem dX11_putText_127 : decode cX11_putText 127 = .ok (.goto 9, 3) := by decide +kernel
theorem dX11_putText_130 : decode cX11_putText 130 = .ok (.aload_n 0, 1) := by decide +kernel
theorem dX11_putText_131 : decode cX11_putText 131 = .ok (.iload 4, 2) := by decide +kernel
theorem dX11_putText_133 : decode cX11_putText 133 = .ok (.invokevirtual 260, 3) := by decide +kernel
theorem dX11_putText_136 : decode cX11_putText 136 = .ok (.iinc 3 1, 3) := by decide +kernel
theorem dX11_putText_139 : decode cX11_putText 139 = .ok (.goto (-137), 3) := by decide +kernel
theorem dX11_putText_142 : decode cX11_putText 142 = .ok (.return_, 1) := by decide +kernel
theorem dX11_putValue_0 : decode cX11_putValue 0 = .ok (.iconst 4, 1) := by decide +kernel
theorem dX11_putValue_1 : decode cX11_putValue 1 = .ok (.iload_n 1, 1) := by decide +kernel
theorem dX11_putValue_2 : decode cX11_putValue 2 = .ok (.imul, 1) := by decide +kernel
theorem dX11_putValue_3 : decode cX11_putValue 3 = .ok (.iload_n 2, 1) := by decide +kernel
theorem dX11_putValue_4 : decode cX11_putValue 4 = .ok (.iadd, 1) := by decide +kernel
theorem dX11_putValue_5 : decode cX11_putValue 5 = .ok (.istore 5, 2) := by decide +kernel
theorem dX11_putValue_7 : decode cX11_putValue 7 = .ok (.aload_n 0, 1) := by decide +kernel
theorem dX11_putValue_8 : decode cX11_putValue 8 = .ok (.getfield 22, 3) := by decide +kernel
theorem dX11_putValue_11 : decode cX11_putValue 11 = .ok (.iconst 4, 1) := by decide +kernel
theorem dX11_putValue_12 : decode cX11_putValue 12 = .ok (.iload_n 3, 1) := by decide +kernel
theorem dX11_putValue_13 : decode cX11_putValue 13 = .ok (.imul, 1) := by decide +kernel
theorem dX11_putValue_14 : decode cX11_putValue 14 = .ok (.iload_n 2, 1) := by decide +kernel
theorem dX11_putValue_15 : decode cX11_putValue 15 = .ok (.iadd, 1) := by decide +kernel
theorem dX11_putValue_16 : decode cX11_putValue 16 = .ok (.iaload, 1) := by decide +kernel
theorem dX11_putValue_17 : decode cX11_putValue 17 = .ok (.ifCond .ne 17, 3) := by decide +kernel
theorem dX11_putValue_20 : decode cX11_putValue 20 = .ok (.aload_n 0, 1) := by decide +kernel
theorem dX11_putValue_21 : decode cX11_putValue 21 = .ok (.aload_n 0, 1) := by decide +kernel
theorem dX11_putValue_22 : decode cX11_putValue 22 = .ok (.getfield 53, 3) := by decide +kernel
theorem dX11_putValue_25 : decode cX11_putValue 25 = .ok (.iload 5, 2) := by decide +kernel
theorem dX11_putValue_27 : decode cX11_putValue 27 = .ok (.iaload, 1) := by decide +kernel
theorem dX11_putValue_28 : decode cX11_putValue 28 = .ok (.invokevirtual 271, 3) := by decide +kernel
theorem dX11_putValue_31 : decode cX11_putValue 31 = .ok (.goto 11, 3) := by decide +kernel
theorem dX11_putValue_34 : decode cX11_putValue 34 = .ok (.aload_n 0, 1) := by decide +kernel
theorem dX11_putValue_35 : decode cX11_putValue 35 = .ok (.iload 5, 2) := by decide +kernel
theorem dX11_putValue_37 : decode cX11_putValue 37 = .ok (.iload 4, 2) := by decide +kernel
theorem dX11_putValue_39 : decode cX11_putValue 39 = .ok (.invokevirtual 274, 3) := by decide +kernel
theorem dX11_putValue_42 : decode cX11_putValue 42 = .ok (.return_, 1) := by decide +kernel
theorem dX11_sameName_0 : decode cX11_sameName 0 = .ok (.aload_n 0, 1) := by decide +kernel
theorem dX11_sameName_1 : decode cX11_sameName 1 = .ok (.getfield 16, 3) := by decide +kernel
theorem dX11_sameName_4 : decode cX11_sameName 4 = .ok (.iload_n 1, 1) := by decide +kernel
theorem dX11_sameName_5 : decode cX11_sameName 5 = .ok (.iaload, 1) := by decide +kernel
theorem dX11_sameName_6 : decode cX11_sameName 6 = .ok (.aload_n 0, 1) := by decide +kernel
theorem dX11_sameName_7 : decode cX11_sameName 7 = .ok (.getfield 16, 3) := by decide +kernel
theorem dX11_sameName_10 : decode cX11_sameName 10 = .ok (.iload_n 2, 1) := by decide +kernel
theorem dX11_sameName_11 : decode cX11_sameName 11 = .ok (.iaload, 1) := by decide +kernel
theorem dX11_sameName_12 : decode cX11_sameName 12 = .ok (.if_icmp .ne 7, 3) := by decide +kernel
theorem dX11_sameName_15 : decode cX11_sameName 15 = .ok (.iconst 1, 1) := by decide +kernel
theorem dX11_sameName_16 : decode cX11_sameName 16 = .ok (.goto 4, 3) := by decide +kernel
theorem dX11_sameName_19 : decode cX11_sameName 19 = .ok (.iconst 0, 1) := by decide +kernel
theorem dX11_sameName_20 : decode cX11_sameName 20 = .ok (.istore_n 3, 1) := by decide +kernel
theorem dX11_sameName_21 : decode cX11_sameName 21 = .ok (.iconst 0, 1) := by decide +kernel
theorem dX11_sameName_22 : decode cX11_sameName 22 = .ok (.istore 4, 2) := by decide +kernel
theorem dX11_sameName_24 : decode cX11_sameName 24 = .ok (.iload 4, 2) := by decide +kernel
theorem dX11_sameName_26 : decode cX11_sameName 26 = .ok (.aload_n 0, 1) := by decide +kernel
theorem dX11_sameName_27 : decode cX11_sameName 27 = .ok (.getfield 16, 3) := by decide +kernel
theorem dX11_sameName_30 : decode cX11_sameName 30 = .ok (.iload_n 1, 1) := by decide +kernel
theorem dX11_sameName_31 : decode cX11_sameName 31 = .ok (.iaload, 1) := by decide +kernel
theorem dX11_sameName_32 : decode cX11_sameName 32 = .ok (.if_icmp .ge 46, 3) := by decide +kernel
theorem dX11_sameName_35 : decode cX11_sameName 35 = .ok (.iload_n 3, 1) := by decide +kernel
theorem dX11_sameName_36 : decode cX11_sameName 36 = .ok (.ifCond .eq 42, 3) := by decide +kernel
theorem dX11_sameName_39 : decode cX11_sameName 39 = .ok (.aload_n 0, 1) := by decide +kernel
theorem dX11_sameName_40 : decode cX11_sameName 40 = .ok (.getfield 19, 3) := by decide +kernel
theorem dX11_sameName_43 : decode cX11_sameName 43 = .ok (.bipush 8, 2) := by decide +kernel
theorem dX11_sameName_45 : decode cX11_sameName 45 = .ok (.iload_n 1, 1) := by decide +kernel
theorem dX11_sameName_46 : decode cX11_sameName 46 = .ok (.imul, 1) := by decide +kernel
theorem dX11_sameName_47 : decode cX11_sameName 47 = .ok (.iload 4, 2) := by decide +kernel
theorem dX11_sameName_49 : decode cX11_sameName 49 = .ok (.iadd, 1) := by decide +kernel
theorem dX11_sameName_50 : decode cX11_sameName 50 = .ok (.iaload, 1) := by decide +kernel
theorem dX11_sameName_51 : decode cX11_sameName 51 = .ok (.aload_n 0, 1) := by decide +kernel
theorem dX11_sameName_52 : decode cX11_sameName 52 = .ok (.getfield 19, 3) := by decide +kernel
theorem dX11_sameName_55 : decode cX11_sameName 55 = .ok (.bipush 8, 2) := by decide +kernel
theorem dX11_sameName_57 : decode cX11_sameName 57 = .ok (.iload_n 2, 1) := by decide +kernel
theorem dX11_sameName_58 : decode cX11_sameName 58 = .ok (.imul, 1) := by decide +kernel
theorem dX11_sameName_59 : decode cX11_sameName 59 = .ok (.iload 4, 2) := by decide +kernel
theorem dX11_sameName_61 : decode cX11_sameName 61 = .ok (.iadd, 1) := by decide +kernel
theorem dX11_sameName_62 : decode cX11_sameName 62 = .ok (.iaload, 1) := by decide +kernel
theorem dX11_sameName_63 : decode cX11_sameName 63 = .ok (.if_icmp .ne 7, 3) := by decide +kernel
theorem dX11_sameName_66 : decode cX11_sameName 66 = .ok (.iconst 1, 1) := by decide +kernel
theorem dX11_sameName_67 : decode cX11_sameName 67 = .ok (.goto 4, 3) := by decide +kernel
theorem dX11_sameName_70 : decode cX11_sameName 70 = .ok (.iconst 0, 1) := by decide +kernel
theorem dX11_sameName_71 : decode cX11_sameName 71 = .ok (.istore_n 3, 1) := by decide +kernel
theorem dX11_sameName_72 : decode cX11_sameName 72 = .ok (.iinc 4 1, 3) := by decide +kernel
theorem dX11_sameName_75 : decode cX11_sameName 75 = .ok (.goto (-51), 3) := by decide +kernel
theorem dX11_sameName_78 : decode cX11_sameName 78 = .ok (.iload_n 3, 1) := by decide +kernel
theorem dX11_sameName_79 : decode cX11_sameName 79 = .ok (.ireturn, 1) := by decide +kernel
theorem dX11_element_0 : decode cX11_element 0 = .ok (.iconst 1, 1) := by decide +kernel
theorem dX11_element_1 : decode cX11_element 1 = .ok (.istore_n 3, 1) := by decide +kernel
theorem dX11_element_2 : decode cX11_element 2 = .ok (.iconst 0, 1) := by decide +kernel
theorem dX11_element_3 : decode cX11_element 3 = .ok (.istore 4, 2) := by decide +kernel
theorem dX11_element_5 : decode cX11_element 5 = .ok (.iload 4, 2) := by decide +kernel
theorem dX11_element_7 : decode cX11_element 7 = .ok (.aload_n 0, 1) := by decide +kernel
theorem dX11_element_8 : decode cX11_element 8 = .ok (.getfield 278, 3) := by decide +kernel
theorem dX11_element_11 : decode cX11_element 11 = .ok (.if_icmp .ge 43, 3) := by decide +kernel
theorem dX11_element_14 : decode cX11_element 14 = .ok (.aload_n 0, 1) := by decide +kernel
theorem dX11_element_15 : decode cX11_element 15 = .ok (.getfield 66, 3) := by decide +kernel
theorem dX11_element_18 : decode cX11_element 18 = .ok (.iload 4, 2) := by decide +kernel
theorem dX11_element_20 : decode cX11_element 20 = .ok (.iaload, 1) := by decide +kernel
theorem dX11_element_21 : decode cX11_element 21 = .ok (.iload_n 1, 1) := by decide +kernel
theorem dX11_element_22 : decode cX11_element 22 = .ok (.if_icmp .ne 24, 3) := by decide +kernel
theorem dX11_element_25 : decode cX11_element 25 = .ok (.aload_n 0, 1) := by decide +kernel
theorem dX11_element_26 : decode cX11_element 26 = .ok (.aload_n 0, 1) := by decide +kernel
theorem dX11_element_27 : decode cX11_element 27 = .ok (.getfield 69, 3) := by decide +kernel
theorem dX11_element_30 : decode cX11_element 30 = .ok (.iload 4, 2) := by decide +kernel
theorem dX11_element_32 : decode cX11_element 32 = .ok (.iaload, 1) := by decide +kernel
theorem dX11_element_33 : decode cX11_element 33 = .ok (.iload_n 2, 1) := by decide +kernel
theorem dX11_element_34 : decode cX11_element 34 = .ok (.invokevirtual 281, 3) := by decide +kernel
theorem dX11_element_37 : decode cX11_element 37 = .ok (.ifCond .eq 9, 3) := by decide +kernel
theorem dX11_element_40 : decode cX11_element 40 = .ok (.iload_n 3, 1) := by decide +kernel
theorem dX11_element_41 : decode cX11_element 41 = .ok (.iconst 1, 1) := by decide +kernel
theorem dX11_element_42 : decode cX11_element 42 = .ok (.iadd, 1) := by decide +kernel
theorem dX11_element_43 : decode cX11_element 43 = .ok (.goto 4, 3) := by decide +kernel
theorem dX11_element_46 : decode cX11_element 46 = .ok (.iload_n 3, 1) := by decide +kernel
theorem dX11_element_47 : decode cX11_element 47 = .ok (.istore_n 3, 1) := by decide +kernel
theorem dX11_element_48 : decode cX11_element 48 = .ok (.iinc 4 1, 3) := by decide +kernel
theorem dX11_element_51 : decode cX11_element 51 = .ok (.goto (-46), 3) := by decide +kernel
theorem dX11_element_54 : decode cX11_element 54 = .ok (.aload_n 0, 1) := by decide +kernel
theorem dX11_element_55 : decode cX11_element 55 = .ok (.getfield 66, 3) := by decide +kernel
theorem dX11_element_58 : decode cX11_element 58 = .ok (.aload_n 0, 1) := by decide +kernel
theorem dX11_element_59 : decode cX11_element 59 = .ok (.getfield 278, 3) := by decide +kernel
theorem dX11_element_62 : decode cX11_element 62 = .ok (.iload_n 1, 1) := by decide +kernel
theorem dX11_element_63 : decode cX11_element 63 = .ok (.iastore, 1) := by decide +kernel
theorem dX11_element_64 : decode cX11_element 64 = .ok (.aload_n 0, 1) := by decide +kernel
theorem dX11_element_65 : decode cX11_element 65 = .ok (.getfield 69, 3) := by decide +kernel
theorem dX11_element_68 : decode cX11_element 68 = .ok (.aload_n 0, 1) := by decide +kernel
theorem dX11_element_69 : decode cX11_element 69 = .ok (.getfield 278, 3) := by decide +kernel
theorem dX11_element_72 : decode cX11_element 72 = .ok (.iload_n 2, 1) := by decide +kernel
theorem dX11_element_73 : decode cX11_element 73 = .ok (.iastore, 1) := by decide +kernel
theorem dX11_element_74 : decode cX11_element 74 = .ok (.aload_n 0, 1) := by decide +kernel
theorem dX11_element_75 : decode cX11_element 75 = .ok (.getfield 72, 3) := by decide +kernel
theorem dX11_element_78 : decode cX11_element 78 = .ok (.aload_n 0, 1) := by decide +kernel
theorem dX11_element_79 : decode cX11_element 79 = .ok (.getfield 278, 3) := by decide +kernel
theorem dX11_element_82 : decode cX11_element 82 = .ok (.iload_n 3, 1) := by decide +kernel
theorem dX11_element_83 : decode cX11_element 83 = .ok (.iastore, 1) := by decide +kernel
theorem dX11_element_84 : decode cX11_element 84 = .ok (.aload_n 0, 1) := by decide +kernel
theorem dX11_element_85 : decode cX11_element 85 = .ok (.dup, 1) := by decide +kernel
theorem dX11_element_86 : decode cX11_element 86 = .ok (.getfield 278, 3) := by decide +kernel
theorem dX11_element_89 : decode cX11_element 89 = .ok (.iconst 1, 1) := by decide +kernel
theorem dX11_element_90 : decode cX11_element 90 = .ok (.iadd, 1) := by decide +kernel
theorem dX11_element_91 : decode cX11_element 91 = .ok (.putfield 278, 3) := by decide +kernel
theorem dX11_element_94 : decode cX11_element 94 = .ok (.aload_n 0, 1) := by decide +kernel
theorem dX11_element_95 : decode cX11_element 95 = .ok (.getfield 278, 3) := by decide +kernel
theorem dX11_element_98 : decode cX11_element 98 = .ok (.iconst 1, 1) := by decide +kernel
theorem dX11_element_99 : decode cX11_element 99 = .ok (.isub, 1) := by decide +kernel
theorem dX11_element_100 : decode cX11_element 100 = .ok (.ireturn, 1) := by decide +kernel
theorem dX11_putAttribute_0 : decode cX11_putAttribute 0 = .ok (.aload_n 0, 1) := by decide +kernel
theorem dX11_putAttribute_1 : decode cX11_putAttribute 1 = .ok (.bipush 32, 2) := by decide +kernel
theorem dX11_putAttribute_3 : decode cX11_putAttribute 3 = .ok (.invokevirtual 260, 3) := by decide +kernel
theorem dX11_putAttribute_6 : decode cX11_putAttribute 6 = .ok (.aload_n 0, 1) := by decide +kernel
theorem dX11_putAttribute_7 : decode cX11_putAttribute 7 = .ok (.iload_n 1, 1) := by decide +kernel
theorem dX11_putAttribute_8 : decode cX11_putAttribute 8 = .ok (.iload_n 2, 1) := by decide +kernel
theorem dX11_putAttribute_9 : decode cX11_putAttribute 9 = .ok (.iload_n 3, 1) := by decide +kernel
theorem dX11_putAttribute_10 : decode cX11_putAttribute 10 = .ok (.iload 4, 2) := by decide +kernel
theorem dX11_putAttribute_12 : decode cX11_putAttribute 12 = .ok (.invokevirtual 267, 3) := by decide +kernel
theorem dX11_putAttribute_15 : decode cX11_putAttribute 15 = .ok (.return_, 1) := by decide +kernel
theorem dX11_putStep_0 : decode cX11_putStep 0 = .ok (.aload_n 0, 1) := by decide +kernel
theorem dX11_putStep_1 : decode cX11_putStep 1 = .ok (.aload_n 0, 1) := by decide +kernel
theorem dX11_putStep_2 : decode cX11_putStep 2 = .ok (.getfield 69, 3) := by decide +kernel
theorem dX11_putStep_5 : decode cX11_putStep 5 = .ok (.iload_n 1, 1) := by decide +kernel
theorem dX11_putStep_6 : decode cX11_putStep 6 = .ok (.iaload, 1) := by decide +kernel
theorem dX11_putStep_7 : decode cX11_putStep 7 = .ok (.invokevirtual 284, 3) := by decide +kernel
theorem dX11_putStep_10 : decode cX11_putStep 10 = .ok (.aload_n 0, 1) := by decide +kernel
theorem dX11_putStep_11 : decode cX11_putStep 11 = .ok (.getfield 72, 3) := by decide +kernel
theorem dX11_putStep_14 : decode cX11_putStep 14 = .ok (.iload_n 1, 1) := by decide +kernel
theorem dX11_putStep_15 : decode cX11_putStep 15 = .ok (.iaload, 1) := by decide +kernel
theorem dX11_putStep_16 : decode cX11_putStep 16 = .ok (.iconst 1, 1) := by decide +kernel
theorem dX11_putStep_17 : decode cX11_putStep 17 = .ok (.if_icmp .le 25, 3) := by decide +kernel
theorem dX11_putStep_20 : decode cX11_putStep 20 = .ok (.aload_n 0, 1) := by decide +kernel
theorem dX11_putStep_21 : decode cX11_putStep 21 = .ok (.bipush 91, 2) := by decide +kernel
theorem dX11_putStep_23 : decode cX11_putStep 23 = .ok (.invokevirtual 260, 3) := by decide +kernel
theorem dX11_putStep_26 : decode cX11_putStep 26 = .ok (.aload_n 0, 1) := by decide +kernel
theorem dX11_putStep_27 : decode cX11_putStep 27 = .ok (.aload_n 0, 1) := by decide +kernel
theorem dX11_putStep_28 : decode cX11_putStep 28 = .ok (.getfield 72, 3) := by decide +kernel
theorem dX11_putStep_31 : decode cX11_putStep 31 = .ok (.iload_n 1, 1) := by decide +kernel
theorem dX11_putStep_32 : decode cX11_putStep 32 = .ok (.iaload, 1) := by decide +kernel
theorem dX11_putStep_33 : decode cX11_putStep 33 = .ok (.invokevirtual 271, 3) := by decide +kernel
theorem dX11_putStep_36 : decode cX11_putStep 36 = .ok (.aload_n 0, 1) := by decide +kernel
theorem dX11_putStep_37 : decode cX11_putStep 37 = .ok (.bipush 93, 2) := by decide +kernel
theorem dX11_putStep_39 : decode cX11_putStep 39 = .ok (.invokevirtual 260, 3) := by decide +kernel
theorem dX11_putStep_42 : decode cX11_putStep 42 = .ok (.return_, 1) := by decide +kernel
theorem dX11_isAround_0 : decode cX11_isAround 0 = .ok (.iload_n 2, 1) := by decide +kernel
theorem dX11_isAround_1 : decode cX11_isAround 1 = .ok (.istore_n 3, 1) := by decide +kernel
theorem dX11_isAround_2 : decode cX11_isAround 2 = .ok (.iload_n 3, 1) := by decide +kernel
theorem dX11_isAround_3 : decode cX11_isAround 3 = .ok (.ifCond .lt 18, 3) := by decide +kernel
theorem dX11_isAround_6 : decode cX11_isAround 6 = .ok (.iload_n 3, 1) := by decide +kernel
theorem dX11_isAround_7 : decode cX11_isAround 7 = .ok (.iload_n 1, 1) := by decide +kernel
theorem dX11_isAround_8 : decode cX11_isAround 8 = .ok (.if_icmp .eq 13, 3) := by decide +kernel
theorem dX11_isAround_11 : decode cX11_isAround 11 = .ok (.aload_n 0, 1) := by decide +kernel
theorem dX11_isAround_12 : decode cX11_isAround 12 = .ok (.getfield 66, 3) := by decide +kernel
theorem dX11_isAround_15 : decode cX11_isAround 15 = .ok (.iload_n 3, 1) := by decide +kernel
theorem dX11_isAround_16 : decode cX11_isAround 16 = .ok (.iaload, 1) := by decide +kernel
theorem dX11_isAround_17 : decode cX11_isAround 17 = .ok (.istore_n 3, 1) := by decide +kernel
theorem dX11_isAround_18 : decode cX11_isAround 18 = .ok (.goto (-16), 3) := by decide +kernel
theorem dX11_isAround_21 : decode cX11_isAround 21 = .ok (.iload_n 3, 1) := by decide +kernel
theorem dX11_isAround_22 : decode cX11_isAround 22 = .ok (.iload_n 1, 1) := by decide +kernel
theorem dX11_isAround_23 : decode cX11_isAround 23 = .ok (.if_icmp .ne 7, 3) := by decide +kernel
theorem dX11_isAround_26 : decode cX11_isAround 26 = .ok (.iconst 1, 1) := by decide +kernel
theorem dX11_isAround_27 : decode cX11_isAround 27 = .ok (.goto 4, 3) := by decide +kernel
theorem dX11_isAround_30 : decode cX11_isAround 30 = .ok (.iconst 0, 1) := by decide +kernel
theorem dX11_isAround_31 : decode cX11_isAround 31 = .ok (.ireturn, 1) := by decide +kernel
theorem dX11_putSteps_0 : decode cX11_putSteps 0 = .ok (.iconst 0, 1) := by decide +kernel
theorem dX11_putSteps_1 : decode cX11_putSteps 1 = .ok (.istore 4, 2) := by decide +kernel
theorem dX11_putSteps_3 : decode cX11_putSteps 3 = .ok (.iload_n 1, 1) := by decide +kernel
theorem dX11_putSteps_4 : decode cX11_putSteps 4 = .ok (.istore 5, 2) := by decide +kernel
theorem dX11_putSteps_6 : decode cX11_putSteps 6 = .ok (.iload 5, 2) := by decide +kernel
theorem dX11_putSteps_8 : decode cX11_putSteps 8 = .ok (.ifCond .lt 18, 3) := by decide +kernel
theorem dX11_putSteps_11 : decode cX11_putSteps 11 = .ok (.iinc 4 1, 3) := by decide +kernel
theorem dX11_putSteps_14 : decode cX11_putSteps 14 = .ok (.aload_n 0, 1) := by decide +kernel
theorem dX11_putSteps_15 : decode cX11_putSteps 15 = .ok (.getfield 66, 3) := by decide +kernel
theorem dX11_putSteps_18 : decode cX11_putSteps 18 = .ok (.iload 5, 2) := by decide +kernel
theorem dX11_putSteps_20 : decode cX11_putSteps 20 = .ok (.iaload, 1) := by decide +kernel
theorem dX11_putSteps_21 : decode cX11_putSteps 21 = .ok (.istore 5, 2) := by decide +kernel
theorem dX11_putSteps_23 : decode cX11_putSteps 23 = .ok (.goto (-17), 3) := by decide +kernel
theorem dX11_putSteps_26 : decode cX11_putSteps 26 = .ok (.iload_n 3, 1) := by decide +kernel
theorem dX11_putSteps_27 : decode cX11_putSteps 27 = .ok (.istore 5, 2) := by decide +kernel
theorem dX11_putSteps_29 : decode cX11_putSteps 29 = .ok (.iload 4, 2) := by decide +kernel
theorem dX11_putSteps_31 : decode cX11_putSteps 31 = .ok (.iconst 1, 1) := by decide +kernel
theorem dX11_putSteps_32 : decode cX11_putSteps 32 = .ok (.isub, 1) := by decide +kernel
theorem dX11_putSteps_33 : decode cX11_putSteps 33 = .ok (.istore 6, 2) := by decide +kernel
theorem dX11_putSteps_35 : decode cX11_putSteps 35 = .ok (.iload 6, 2) := by decide +kernel
theorem dX11_putSteps_37 : decode cX11_putSteps 37 = .ok (.ifCond .lt 73, 3) := by decide +kernel
theorem dX11_putSteps_40 : decode cX11_putSteps 40 = .ok (.iload_n 1, 1) := by decide +kernel
theorem dX11_putSteps_41 : decode cX11_putSteps 41 = .ok (.istore 7, 2) := by decide +kernel
theorem dX11_putSteps_43 : decode cX11_putSteps 43 = .ok (.iconst 0, 1) := by decide +kernel
theorem dX11_putSteps_44 : decode cX11_putSteps 44 = .ok (.istore 8, 2) := by decide +kernel
theorem dX11_putSteps_46 : decode cX11_putSteps 46 = .ok (.iload 8, 2) := by decide +kernel
theorem dX11_putSteps_48 : decode cX11_putSteps 48 = .ok (.iload 6, 2) := by decide +kernel
theorem dX11_putSteps_50 : decode cX11_putSteps 50 = .ok (.if_icmp .ge 18, 3) := by decide +kernel
theorem dX11_putSteps_53 : decode cX11_putSteps 53 = .ok (.aload_n 0, 1) := by decide +kernel
theorem dX11_putSteps_54 : decode cX11_putSteps 54 = .ok (.getfield 66, 3) := by decide +kernel
theorem dX11_putSteps_57 : decode cX11_putSteps 57 = .ok (.iload 7, 2) := by decide +kernel
theorem dX11_putSteps_59 : decode cX11_putSteps 59 = .ok (.iaload, 1) := by decide +kernel
theorem dX11_putSteps_60 : decode cX11_putSteps 60 = .ok (.istore 7, 2) := by decide +kernel
theorem dX11_putSteps_62 : decode cX11_putSteps 62 = .ok (.iinc 8 1, 3) := by decide +kernel
theorem dX11_putSteps_65 : decode cX11_putSteps 65 = .ok (.goto (-19), 3) := by decide +kernel
theorem dX11_putSteps_68 : decode cX11_putSteps 68 = .ok (.iload_n 2, 1) := by decide +kernel
theorem dX11_putSteps_69 : decode cX11_putSteps 69 = .ok (.bipush (-2), 2) := by decide +kernel
theorem dX11_putSteps_71 : decode cX11_putSteps 71 = .ok (.if_icmp .eq 13, 3) := by decide +kernel
theorem dX11_putSteps_74 : decode cX11_putSteps 74 = .ok (.aload_n 0, 1) := by decide +kernel
theorem dX11_putSteps_75 : decode cX11_putSteps 75 = .ok (.iload 7, 2) := by decide +kernel
theorem dX11_putSteps_77 : decode cX11_putSteps 77 = .ok (.iload_n 2, 1) := by decide +kernel
theorem dX11_putSteps_78 : decode cX11_putSteps 78 = .ok (.invokevirtual 287, 3) := by decide +kernel
theorem dX11_putSteps_81 : decode cX11_putSteps 81 = .ok (.ifCond .ne 23, 3) := by decide +kernel
theorem dX11_putSteps_84 : decode cX11_putSteps 84 = .ok (.iload 5, 2) := by decide +kernel
theorem dX11_putSteps_86 : decode cX11_putSteps 86 = .ok (.ifCond .eq 9, 3) := by decide +kernel
theorem dX11_putSteps_89 : decode cX11_putSteps 89 = .ok (.aload_n 0, 1) := by decide +kernel
theorem dX11_putSteps_90 : decode cX11_putSteps 90 = .ok (.bipush 47, 2) := by decide +kernel
theorem dX11_putSteps_92 : decode cX11_putSteps 92 = .ok (.invokevirtual 260, 3) := by decide +kernel
theorem dX11_putSteps_95 : decode cX11_putSteps 95 = .ok (.aload_n 0, 1) := by decide +kernel
theorem dX11_putSteps_96 : decode cX11_putSteps 96 = .ok (.iload 7, 2) := by decide +kernel
theorem dX11_putSteps_98 : decode cX11_putSteps 98 = .ok (.invokevirtual 290, 3) := by decide +kernel
theorem dX11_putSteps_101 : decode cX11_putSteps 101 = .ok (.iconst 1, 1) := by decide +kernel
theorem dX11_putSteps_102 : decode cX11_putSteps 102 = .ok (.istore 5, 2) := by decide +kernel
theorem dX11_putSteps_104 : decode cX11_putSteps 104 = .ok (.iinc 6 (-1), 3) := by decide +kernel
theorem dX11_putSteps_107 : decode cX11_putSteps 107 = .ok (.goto (-72), 3) := by decide +kernel
theorem dX11_putSteps_110 : decode cX11_putSteps 110 = .ok (.return_, 1) := by decide +kernel
theorem dX11_putWay_0 : decode cX11_putWay 0 = .ok (.iload_n 3, 1) := by decide +kernel
theorem dX11_putWay_1 : decode cX11_putWay 1 = .ok (.iconst 1, 1) := by decide +kernel
theorem dX11_putWay_2 : decode cX11_putWay 2 = .ok (.if_icmp .ne 12, 3) := by decide +kernel
theorem dX11_putWay_5 : decode cX11_putWay 5 = .ok (.aload_n 0, 1) := by decide +kernel
theorem dX11_putWay_6 : decode cX11_putWay 6 = .ok (.iload_n 2, 1) := by decide +kernel
theorem dX11_putWay_7 : decode cX11_putWay 7 = .ok (.bipush (-2), 2) := by decide +kernel
theorem dX11_putWay_9 : decode cX11_putWay 9 = .ok (.iconst 1, 1) := by decide +kernel
theorem dX11_putWay_10 : decode cX11_putWay 10 = .ok (.invokevirtual 293, 3) := by decide +kernel
theorem dX11_putWay_13 : decode cX11_putWay 13 = .ok (.return_, 1) := by decide +kernel
theorem dX11_putWay_14 : decode cX11_putWay 14 = .ok (.iconst 0, 1) := by decide +kernel
theorem dX11_putWay_15 : decode cX11_putWay 15 = .ok (.istore 4, 2) := by decide +kernel
theorem dX11_putWay_17 : decode cX11_putWay 17 = .ok (.iload_n 1, 1) := by decide +kernel
theorem dX11_putWay_18 : decode cX11_putWay 18 = .ok (.istore 5, 2) := by decide +kernel
theorem dX11_putWay_20 : decode cX11_putWay 20 = .ok (.iload 5, 2) := by decide +kernel
theorem dX11_putWay_22 : decode cX11_putWay 22 = .ok (.ifCond .lt 51, 3) := by decide +kernel
theorem dX11_putWay_25 : decode cX11_putWay 25 = .ok (.aload_n 0, 1) := by decide +kernel
theorem dX11_putWay_26 : decode cX11_putWay 26 = .ok (.iload 5, 2) := by decide +kernel
theorem dX11_putWay_28 : decode cX11_putWay 28 = .ok (.iload_n 2, 1) := by decide +kernel
theorem dX11_putWay_29 : decode cX11_putWay 29 = .ok (.invokevirtual 287, 3) := by decide +kernel
theorem dX11_putWay_32 : decode cX11_putWay 32 = .ok (.ifCond .ne 29, 3) := by decide +kernel
theorem dX11_putWay_35 : decode cX11_putWay 35 = .ok (.iload 4, 2) := by decide +kernel
theorem dX11_putWay_37 : decode cX11_putWay 37 = .ok (.ifCond .eq 9, 3) := by decide +kernel
theorem dX11_putWay_40 : decode cX11_putWay 40 = .ok (.aload_n 0, 1) := by decide +kernel
theorem dX11_putWay_41 : decode cX11_putWay 41 = .ok (.bipush 47, 2) := by decide +kernel
theorem dX11_putWay_43 : decode cX11_putWay 43 = .ok (.invokevirtual 260, 3) := by decide +kernel
theorem dX11_putWay_46 : decode cX11_putWay 46 = .ok (.aload_n 0, 1) := by decide +kernel
theorem dX11_putWay_47 : decode cX11_putWay 47 = .ok (.bipush 46, 2) := by decide +kernel
theorem dX11_putWay_49 : decode cX11_putWay 49 = .ok (.invokevirtual 260, 3) := by decide +kernel
theorem dX11_putWay_52 : decode cX11_putWay 52 = .ok (.aload_n 0, 1) := by decide +kernel
theorem dX11_putWay_53 : decode cX11_putWay 53 = .ok (.bipush 46, 2) := by decide +kernel
theorem dX11_putWay_55 : decode cX11_putWay 55 = .ok (.invokevirtual 260, 3) := by decide +kernel
theorem dX11_putWay_58 : decode cX11_putWay 58 = .ok (.iconst 1, 1) := by decide +kernel
theorem dX11_putWay_59 : decode cX11_putWay 59 = .ok (.istore 4, 2) := by decide +kernel
theorem dX11_putWay_61 : decode cX11_putWay 61 = .ok (.aload_n 0, 1) := by decide +kernel
theorem dX11_putWay_62 : decode cX11_putWay 62 = .ok (.getfield 66, 3) := by decide +kernel
theorem dX11_putWay_65 : decode cX11_putWay 65 = .ok (.iload 5, 2) := by decide +kernel
theorem dX11_putWay_67 : decode cX11_putWay 67 = .ok (.iaload, 1) := by decide +kernel
theorem dX11_putWay_68 : decode cX11_putWay 68 = .ok (.istore 5, 2) := by decide +kernel
theorem dX11_putWay_70 : decode cX11_putWay 70 = .ok (.goto (-50), 3) := by decide +kernel
theorem dX11_putWay_73 : decode cX11_putWay 73 = .ok (.aload_n 0, 1) := by decide +kernel
theorem dX11_putWay_74 : decode cX11_putWay 74 = .ok (.iload_n 2, 1) := by decide +kernel
theorem dX11_putWay_75 : decode cX11_putWay 75 = .ok (.iload_n 1, 1) := by decide +kernel
theorem dX11_putWay_76 : decode cX11_putWay 76 = .ok (.iload 4, 2) := by decide +kernel
theorem dX11_putWay_78 : decode cX11_putWay 78 = .ok (.invokevirtual 293, 3) := by decide +kernel

