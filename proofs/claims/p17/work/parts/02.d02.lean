theorem dX6_isNamed_14 : decode cX6_isNamed 14 = .ok (.iaload, 1) := by decide +kernel
theorem dX6_isNamed_15 : decode cX6_isNamed 15 = .ok (.aload_n 0, 1) := by decide +kernel
theorem dX6_isNamed_16 : decode cX6_isNamed 16 = .ok (.getfield 28, 3) := by decide +kernel
theorem dX6_isNamed_19 : decode cX6_isNamed 19 = .ok (.iload_n 1, 1) := by decide +kernel
theorem dX6_isNamed_20 : decode cX6_isNamed 20 = .ok (.iaload, 1) := by decide +kernel
theorem dX6_isNamed_21 : decode cX6_isNamed 21 = .ok (.aload_n 0, 1) := by decide +kernel
theorem dX6_isNamed_22 : decode cX6_isNamed 22 = .ok (.getfield 18, 3) := by decide +kernel
theorem dX6_isNamed_25 : decode cX6_isNamed 25 = .ok (.iload_n 2, 1) := by decide +kernel
theorem dX6_isNamed_26 : decode cX6_isNamed 26 = .ok (.iload_n 3, 1) := by decide +kernel
theorem dX6_isNamed_27 : decode cX6_isNamed 27 = .ok (.invokevirtual 92, 3) := by decide +kernel
theorem dX6_isNamed_30 : decode cX6_isNamed 30 = .ok (.ifCond .eq 7, 3) := by decide +kernel
theorem dX6_isNamed_33 : decode cX6_isNamed 33 = .ok (.iconst 1, 1) := by decide +kernel
theorem dX6_isNamed_34 : decode cX6_isNamed 34 = .ok (.goto 4, 3) := by decide +kernel
theorem dX6_isNamed_37 : decode cX6_isNamed 37 = .ok (.iconst 0, 1) := by decide +kernel
theorem dX6_isNamed_38 : decode cX6_isNamed 38 = .ok (.ireturn, 1) := by decide +kernel
theorem dX6_hasKey_0 : decode cX6_hasKey 0 = .ok (.aload_n 0, 1) := by decide +kernel
theorem dX6_hasKey_1 : decode cX6_hasKey 1 = .ok (.iload_n 1, 1) := by decide +kernel
theorem dX6_hasKey_2 : decode cX6_hasKey 2 = .ok (.invokevirtual 96, 3) := by decide +kernel
theorem dX6_hasKey_5 : decode cX6_hasKey 5 = .ok (.istore 4, 2) := by decide +kernel
theorem dX6_hasKey_7 : decode cX6_hasKey 7 = .ok (.iload 4, 2) := by decide +kernel
theorem dX6_hasKey_9 : decode cX6_hasKey 9 = .ok (.istore 5, 2) := by decide +kernel
theorem dX6_hasKey_11 : decode cX6_hasKey 11 = .ok (.iload 5, 2) := by decide +kernel
theorem dX6_hasKey_13 : decode cX6_hasKey 13 = .ok (.iload 4, 2) := by decide +kernel
theorem dX6_hasKey_15 : decode cX6_hasKey 15 = .ok (.aload_n 0, 1) := by decide +kernel
theorem dX6_hasKey_16 : decode cX6_hasKey 16 = .ok (.iload_n 1, 1) := by decide +kernel
theorem dX6_hasKey_17 : decode cX6_hasKey 17 = .ok (.invokevirtual 100, 3) := by decide +kernel
theorem dX6_hasKey_20 : decode cX6_hasKey 20 = .ok (.iadd, 1) := by decide +kernel
theorem dX6_hasKey_21 : decode cX6_hasKey 21 = .ok (.if_icmp .ge 38, 3) := by decide +kernel
theorem dX6_hasKey_24 : decode cX6_hasKey 24 = .ok (.aload_n 0, 1) := by decide +kernel
theorem dX6_hasKey_25 : decode cX6_hasKey 25 = .ok (.aload_n 0, 1) := by decide +kernel
theorem dX6_hasKey_26 : decode cX6_hasKey 26 = .ok (.getfield 53, 3) := by decide +kernel
theorem dX6_hasKey_29 : decode cX6_hasKey 29 = .ok (.iload 5, 2) := by decide +kernel
theorem dX6_hasKey_31 : decode cX6_hasKey 31 = .ok (.iaload, 1) := by decide +kernel
theorem dX6_hasKey_32 : decode cX6_hasKey 32 = .ok (.aload_n 0, 1) := by decide +kernel
theorem dX6_hasKey_33 : decode cX6_hasKey 33 = .ok (.getfield 56, 3) := by decide +kernel
theorem dX6_hasKey_36 : decode cX6_hasKey 36 = .ok (.iload 5, 2) := by decide +kernel
theorem dX6_hasKey_38 : decode cX6_hasKey 38 = .ok (.iaload, 1) := by decide +kernel
theorem dX6_hasKey_39 : decode cX6_hasKey 39 = .ok (.aload_n 0, 1) := by decide +kernel
theorem dX6_hasKey_40 : decode cX6_hasKey 40 = .ok (.getfield 18, 3) := by decide +kernel
theorem dX6_hasKey_43 : decode cX6_hasKey 43 = .ok (.iload_n 2, 1) := by decide +kernel
theorem dX6_hasKey_44 : decode cX6_hasKey 44 = .ok (.iload_n 3, 1) := by decide +kernel
theorem dX6_hasKey_45 : decode cX6_hasKey 45 = .ok (.invokevirtual 92, 3) := by decide +kernel
theorem dX6_hasKey_48 : decode cX6_hasKey 48 = .ok (.ifCond .eq 5, 3) := by decide +kernel
theorem dX6_hasKey_51 : decode cX6_hasKey 51 = .ok (.iconst 1, 1) := by decide +kernel
theorem dX6_hasKey_52 : decode cX6_hasKey 52 = .ok (.ireturn, 1) := by decide +kernel
theorem dX6_hasKey_53 : decode cX6_hasKey 53 = .ok (.iinc 5 1, 3) := by decide +kernel
theorem dX6_hasKey_56 : decode cX6_hasKey 56 = .ok (.goto (-45), 3) := by decide +kernel
theorem dX6_hasKey_59 : decode cX6_hasKey 59 = .ok (.iconst 0, 1) := by decide +kernel
theorem dX6_hasKey_60 : decode cX6_hasKey 60 = .ok (.ireturn, 1) := by decide +kernel
theorem dX6_attributeNamed_0 : decode cX6_attributeNamed 0 = .ok (.aload_n 0, 1) := by decide +kernel
theorem dX6_attributeNamed_1 : decode cX6_attributeNamed 1 = .ok (.iload_n 1, 1) := by decide +kernel
theorem dX6_attributeNamed_2 : decode cX6_attributeNamed 2 = .ok (.invokevirtual 96, 3) := by decide +kernel
theorem dX6_attributeNamed_5 : decode cX6_attributeNamed 5 = .ok (.istore_n 3, 1) := by decide +kernel
theorem dX6_attributeNamed_6 : decode cX6_attributeNamed 6 = .ok (.iload_n 3, 1) := by decide +kernel
theorem dX6_attributeNamed_7 : decode cX6_attributeNamed 7 = .ok (.istore 4, 2) := by decide +kernel
theorem dX6_attributeNamed_9 : decode cX6_attributeNamed 9 = .ok (.iload 4, 2) := by decide +kernel
theorem dX6_attributeNamed_11 : decode cX6_attributeNamed 11 = .ok (.iload_n 3, 1) := by decide +kernel
theorem dX6_attributeNamed_12 : decode cX6_attributeNamed 12 = .ok (.aload_n 0, 1) := by decide +kernel
theorem dX6_attributeNamed_13 : decode cX6_attributeNamed 13 = .ok (.iload_n 1, 1) := by decide +kernel
theorem dX6_attributeNamed_14 : decode cX6_attributeNamed 14 = .ok (.invokevirtual 100, 3) := by decide +kernel
theorem dX6_attributeNamed_17 : decode cX6_attributeNamed 17 = .ok (.iadd, 1) := by decide +kernel
theorem dX6_attributeNamed_18 : decode cX6_attributeNamed 18 = .ok (.if_icmp .ge 37, 3) := by decide +kernel
theorem dX6_attributeNamed_21 : decode cX6_attributeNamed 21 = .ok (.aload_n 0, 1) := by decide +kernel
theorem dX6_attributeNamed_22 : decode cX6_attributeNamed 22 = .ok (.getfield 18, 3) := by decide +kernel
theorem dX6_attributeNamed_25 : decode cX6_attributeNamed 25 = .ok (.aload_n 0, 1) := by decide +kernel
theorem dX6_attributeNamed_26 : decode cX6_attributeNamed 26 = .ok (.getfield 53, 3) := by decide +kernel
theorem dX6_attributeNamed_29 : decode cX6_attributeNamed 29 = .ok (.iload 4, 2) := by decide +kernel
theorem dX6_attributeNamed_31 : decode cX6_attributeNamed 31 = .ok (.iaload, 1) := by decide +kernel
theorem dX6_attributeNamed_32 : decode cX6_attributeNamed 32 = .ok (.aload_n 0, 1) := by decide +kernel
theorem dX6_attributeNamed_33 : decode cX6_attributeNamed 33 = .ok (.getfield 56, 3) := by decide +kernel
theorem dX6_attributeNamed_36 : decode cX6_attributeNamed 36 = .ok (.iload 4, 2) := by decide +kernel
theorem dX6_attributeNamed_38 : decode cX6_attributeNamed 38 = .ok (.iaload, 1) := by decide +kernel
theorem dX6_attributeNamed_39 : decode cX6_attributeNamed 39 = .ok (.aload_n 2, 1) := by decide +kernel
theorem dX6_attributeNamed_40 : decode cX6_attributeNamed 40 = .ok (.invokevirtual 103, 3) := by decide +kernel
theorem dX6_attributeNamed_43 : decode cX6_attributeNamed 43 = .ok (.ifCond .eq 6, 3) := by decide +kernel
theorem dX6_attributeNamed_46 : decode cX6_attributeNamed 46 = .ok (.iload 4, 2) := by decide +kernel
theorem dX6_attributeNamed_48 : decode cX6_attributeNamed 48 = .ok (.ireturn, 1) := by decide +kernel
theorem dX6_attributeNamed_49 : decode cX6_attributeNamed 49 = .ok (.iinc 4 1, 3) := by decide +kernel
theorem dX6_attributeNamed_52 : decode cX6_attributeNamed 52 = .ok (.goto (-43), 3) := by decide +kernel
theorem dX6_attributeNamed_55 : decode cX6_attributeNamed 55 = .ok (.iconst (-1), 1) := by decide +kernel
theorem dX6_attributeNamed_56 : decode cX6_attributeNamed 56 = .ok (.ireturn, 1) := by decide +kernel
theorem dX6_child_0 : decode cX6_child 0 = .ok (.iconst 0, 1) := by decide +kernel
theorem dX6_child_1 : decode cX6_child 1 = .ok (.istore 5, 2) := by decide +kernel
theorem dX6_child_3 : decode cX6_child 3 = .ok (.iload_n 1, 1) := by decide +kernel
theorem dX6_child_4 : decode cX6_child 4 = .ok (.iconst 1, 1) := by decide +kernel
theorem dX6_child_5 : decode cX6_child 5 = .ok (.iadd, 1) := by decide +kernel
theorem dX6_child_6 : decode cX6_child 6 = .ok (.istore 6, 2) := by decide +kernel
theorem dX6_child_8 : decode cX6_child 8 = .ok (.iload 6, 2) := by decide +kernel
theorem dX6_child_10 : decode cX6_child 10 = .ok (.aload_n 0, 1) := by decide +kernel
theorem dX6_child_11 : decode cX6_child 11 = .ok (.getfield 65, 3) := by decide +kernel
theorem dX6_child_14 : decode cX6_child 14 = .ok (.if_icmp .ge 60, 3) := by decide +kernel
theorem dX6_child_17 : decode cX6_child 17 = .ok (.aload_n 0, 1) := by decide +kernel
theorem dX6_child_18 : decode cX6_child 18 = .ok (.getfield 31, 3) := by decide +kernel
theorem dX6_child_21 : decode cX6_child 21 = .ok (.iload 6, 2) := by decide +kernel
theorem dX6_child_23 : decode cX6_child 23 = .ok (.iaload, 1) := by decide +kernel
theorem dX6_child_24 : decode cX6_child 24 = .ok (.iload_n 1, 1) := by decide +kernel
theorem dX6_child_25 : decode cX6_child 25 = .ok (.if_icmp .ne 43, 3) := by decide +kernel
theorem dX6_child_28 : decode cX6_child 28 = .ok (.aload_n 0, 1) := by decide +kernel
theorem dX6_child_29 : decode cX6_child 29 = .ok (.aload_n 0, 1) := by decide +kernel
theorem dX6_child_30 : decode cX6_child 30 = .ok (.getfield 25, 3) := by decide +kernel
theorem dX6_child_33 : decode cX6_child 33 = .ok (.iload 6, 2) := by decide +kernel
theorem dX6_child_35 : decode cX6_child 35 = .ok (.iaload, 1) := by decide +kernel
theorem dX6_child_36 : decode cX6_child 36 = .ok (.aload_n 0, 1) := by decide +kernel
theorem dX6_child_37 : decode cX6_child 37 = .ok (.getfield 28, 3) := by decide +kernel
theorem dX6_child_40 : decode cX6_child 40 = .ok (.iload 6, 2) := by decide +kernel
theorem dX6_child_42 : decode cX6_child 42 = .ok (.iaload, 1) := by decide +kernel
theorem dX6_child_43 : decode cX6_child 43 = .ok (.aload_n 0, 1) := by decide +kernel
theorem dX6_child_44 : decode cX6_child 44 = .ok (.getfield 12, 3) := by decide +kernel
theorem dX6_child_47 : decode cX6_child 47 = .ok (.iload_n 2, 1) := by decide +kernel
theorem dX6_child_48 : decode cX6_child 48 = .ok (.iload_n 3, 1) := by decide +kernel
theorem dX6_child_49 : decode cX6_child 49 = .ok (.invokevirtual 92, 3) := by decide +kernel
theorem dX6_child_52 : decode cX6_child 52 = .ok (.ifCond .eq 16, 3) := by decide +kernel
theorem dX6_child_55 : decode cX6_child 55 = .ok (.iinc 5 1, 3) := by decide +kernel
theorem dX6_child_58 : decode cX6_child 58 = .ok (.iload 5, 2) := by decide +kernel
theorem dX6_child_60 : decode cX6_child 60 = .ok (.iload 4, 2) := by decide +kernel
theorem dX6_child_62 : decode cX6_child 62 = .ok (.if_icmp .ne 6, 3) := by decide +kernel
theorem dX6_child_65 : decode cX6_child 65 = .ok (.iload 6, 2) := by decide +kernel
theorem dX6_child_67 : decode cX6_child 67 = .ok (.ireturn, 1) := by decide +kernel
theorem dX6_child_68 : decode cX6_child 68 = .ok (.iinc 6 1, 3) := by decide +kernel
theorem dX6_child_71 : decode cX6_child 71 = .ok (.goto (-63), 3) := by decide +kernel
theorem dX6_child_74 : decode cX6_child 74 = .ok (.iconst (-1), 1) := by decide +kernel
theorem dX6_child_75 : decode cX6_child 75 = .ok (.ireturn, 1) := by decide +kernel
theorem dX6_isSpelt_0 : decode cX6_isSpelt 0 = .ok (.iload_n 2, 1) := by decide +kernel
theorem dX6_isSpelt_1 : decode cX6_isSpelt 1 = .ok (.iload_n 1, 1) := by decide +kernel
theorem dX6_isSpelt_2 : decode cX6_isSpelt 2 = .ok (.isub, 1) := by decide +kernel
theorem dX6_isSpelt_3 : decode cX6_isSpelt 3 = .ok (.iload 5, 2) := by decide +kernel
theorem dX6_isSpelt_5 : decode cX6_isSpelt 5 = .ok (.iload 4, 2) := by decide +kernel
theorem dX6_isSpelt_7 : decode cX6_isSpelt 7 = .ok (.isub, 1) := by decide +kernel
theorem dX6_isSpelt_8 : decode cX6_isSpelt 8 = .ok (.if_icmp .eq 5, 3) := by decide +kernel
theorem dX6_isSpelt_11 : decode cX6_isSpelt 11 = .ok (.iconst 0, 1) := by decide +kernel
theorem dX6_isSpelt_12 : decode cX6_isSpelt 12 = .ok (.ireturn, 1) := by decide +kernel
theorem dX6_isSpelt_13 : decode cX6_isSpelt 13 = .ok (.iconst 0, 1) := by decide +kernel
theorem dX6_isSpelt_14 : decode cX6_isSpelt 14 = .ok (.istore 6, 2) := by decide +kernel
theorem dX6_isSpelt_16 : decode cX6_isSpelt 16 = .ok (.iload 6, 2) := by decide +kernel
theorem dX6_isSpelt_18 : decode cX6_isSpelt 18 = .ok (.iload_n 2, 1) := by decide +kernel
theorem dX6_isSpelt_19 : decode cX6_isSpelt 19 = .ok (.iload_n 1, 1) := by decide +kernel
theorem dX6_isSpelt_20 : decode cX6_isSpelt 20 = .ok (.isub, 1) := by decide +kernel
theorem dX6_isSpelt_21 : decode cX6_isSpelt 21 = .ok (.if_icmp .ge 34, 3) := by decide +kernel
theorem dX6_isSpelt_24 : decode cX6_isSpelt 24 = .ok (.aload_n 0, 1) := by decide +kernel
theorem dX6_isSpelt_25 : decode cX6_isSpelt 25 = .ok (.getfield 18, 3) := by decide +kernel
theorem dX6_isSpelt_28 : decode cX6_isSpelt 28 = .ok (.iload_n 1, 1) := by decide +kernel
theorem dX6_isSpelt_29 : decode cX6_isSpelt 29 = .ok (.iload 6, 2) := by decide +kernel
theorem dX6_isSpelt_31 : decode cX6_isSpelt 31 = .ok (.iadd, 1) := by decide +kernel
theorem dX6_isSpelt_32 : decode cX6_isSpelt 32 = .ok (.invokevirtual 107, 3) := by decide +kernel
theorem dX6_isSpelt_35 : decode cX6_isSpelt 35 = .ok (.aload_n 3, 1) := by decide +kernel
theorem dX6_isSpelt_36 : decode cX6_isSpelt 36 = .ok (.iload 4, 2) := by decide +kernel
theorem dX6_isSpelt_38 : decode cX6_isSpelt 38 = .ok (.iload 6, 2) := by decide +kernel
theorem dX6_isSpelt_40 : decode cX6_isSpelt 40 = .ok (.iadd, 1) := by decide +kernel
theorem dX6_isSpelt_41 : decode cX6_isSpelt 41 = .ok (.invokevirtual 107, 3) := by decide +kernel
theorem dX6_isSpelt_44 : decode cX6_isSpelt 44 = .ok (.if_icmp .eq 5, 3) := by decide +kernel
theorem dX6_isSpelt_47 : decode cX6_isSpelt 47 = .ok (.iconst 0, 1) := by decide +kernel
theorem dX6_isSpelt_48 : decode cX6_isSpelt 48 = .ok (.ireturn, 1) := by decide +kernel
theorem dX6_isSpelt_49 : decode cX6_isSpelt 49 = .ok (.iinc 6 1, 3) := by decide +kernel
theorem dX6_isSpelt_52 : decode cX6_isSpelt 52 = .ok (.goto (-36), 3) := by decide +kernel
theorem dX6_isSpelt_55 : decode cX6_isSpelt 55 = .ok (.iconst 1, 1) := by decide +kernel
theorem dX6_isSpelt_56 : decode cX6_isSpelt 56 = .ok (.ireturn, 1) := by decide +kernel
theorem dX7_init_0 : decode cX7_init 0 = .ok (.aload_n 0, 1) := by decide +kernel
theorem dX7_init_1 : decode cX7_init 1 = .ok (.invokespecial 3, 3) := by decide +kernel
theorem dX7_init_4 : decode cX7_init 4 = .ok (.aload_n 0, 1) := by decide +kernel
theorem dX7_init_5 : decode cX7_init 5 = .ok (.aload_n 1, 1) := by decide +kernel
theorem dX7_init_6 : decode cX7_init 6 = .ok (.putfield 9, 3) := by decide +kernel
theorem dX7_init_9 : decode cX7_init 9 = .ok (.aload_n 0, 1) := by decide +kernel
theorem dX7_init_10 : decode cX7_init 10 = .ok (.aload_n 1, 1) := by decide +kernel
theorem dX7_init_11 : decode cX7_init 11 = .ok (.invokevirtual 15, 3) := by decide +kernel
theorem dX7_init_14 : decode cX7_init 14 = .ok (.putfield 21, 3) := by decide +kernel
theorem dX7_init_17 : decode cX7_init 17 = .ok (.return_, 1) := by decide +kernel
theorem dX7_end_0 : decode cX7_end 0 = .ok (.iload_n 2, 1) := by decide +kernel
theorem dX7_end_1 : decode cX7_end 1 = .ok (.iload_n 3, 1) := by decide +kernel
theorem dX7_end_2 : decode cX7_end 2 = .ok (.if_icmp .ge 26, 3) := by decide +kernel
theorem dX7_end_5 : decode cX7_end 5 = .ok (.aload_n 0, 1) := by decide +kernel
theorem dX7_end_6 : decode cX7_end 6 = .ok (.getfield 21, 3) := by decide +kernel
theorem dX7_end_9 : decode cX7_end 9 = .ok (.iload_n 2, 1) := by decide +kernel
theorem dX7_end_10 : decode cX7_end 10 = .ok (.invokevirtual 24, 3) := by decide +kernel
theorem dX7_end_13 : decode cX7_end 13 = .ok (.bipush 47, 2) := by decide +kernel
theorem dX7_end_15 : decode cX7_end 15 = .ok (.if_icmp .ne 13, 3) := by decide +kernel
theorem dX7_end_18 : decode cX7_end 18 = .ok (.aload_n 0, 1) := by decide +kernel
theorem dX7_end_19 : decode cX7_end 19 = .ok (.iconst (-1), 1) := by decide +kernel
theorem dX7_end_20 : decode cX7_end 20 = .ok (.iload_n 2, 1) := by decide +kernel
theorem dX7_end_21 : decode cX7_end 21 = .ok (.iconst 1, 1) := by decide +kernel
theorem dX7_end_22 : decode cX7_end 22 = .ok (.iadd, 1) := by decide +kernel
theorem dX7_end_23 : decode cX7_end 23 = .ok (.iload_n 3, 1) := by decide +kernel
theorem dX7_end_24 : decode cX7_end 24 = .ok (.invokevirtual 30, 3) := by decide +kernel
theorem dX7_end_27 : decode cX7_end 27 = .ok (.ireturn, 1) := by decide +kernel
theorem dX7_end_28 : decode cX7_end 28 = .ok (.iload_n 1, 1) := by decide +kernel
theorem dX7_end_29 : decode cX7_end 29 = .ok (.istore 4, 2) := by decide +kernel
theorem dX7_end_31 : decode cX7_end 31 = .ok (.iload_n 2, 1) := by decide +kernel
theorem dX7_end_32 : decode cX7_end 32 = .ok (.istore 5, 2) := by decide +kernel
theorem dX7_end_34 : decode cX7_end 34 = .ok (.iload_n 2, 1) := by decide +kernel
theorem dX7_end_35 : decode cX7_end 35 = .ok (.istore 6, 2) := by decide +kernel
theorem dX7_end_37 : decode cX7_end 37 = .ok (.iload 6, 2) := by decide +kernel
theorem dX7_end_39 : decode cX7_end 39 = .ok (.iload_n 3, 1) := by decide +kernel
theorem dX7_end_40 : decode cX7_end 40 = .ok (.if_icmp .ge 79, 3) := by decide +kernel
theorem dX7_end_43 : decode cX7_end 43 = .ok (.aload_n 0, 1) := by decide +kernel
theorem dX7_end_44 : decode cX7_end 44 = .ok (.iload 5, 2) := by decide +kernel
theorem dX7_end_46 : decode cX7_end 46 = .ok (.iload_n 3, 1) := by decide +kernel
theorem dX7_end_47 : decode cX7_end 47 = .ok (.invokevirtual 34, 3) := by decide +kernel
theorem dX7_end_50 : decode cX7_end 50 = .ok (.ifCond .eq 69, 3) := by decide +kernel
theorem dX7_end_53 : decode cX7_end 53 = .ok (.aload_n 0, 1) := by decide +kernel
theorem dX7_end_54 : decode cX7_end 54 = .ok (.getfield 9, 3) := by decide +kernel
theorem dX7_end_57 : decode cX7_end 57 = .ok (.iload 4, 2) := by decide +kernel
theorem dX7_end_59 : decode cX7_end 59 = .ok (.invokevirtual 38, 3) := by decide +kernel
theorem dX7_end_62 : decode cX7_end 62 = .ok (.istore 4, 2) := by decide +kernel
theorem dX7_end_64 : decode cX7_end 64 = .ok (.iinc 5 2, 3) := by decide +kernel
theorem dX7_end_67 : decode cX7_end 67 = .ok (.iload 4, 2) := by decide +kernel
theorem dX7_end_69 : decode cX7_end 69 = .ok (.iconst (-1), 1) := by decide +kernel
theorem dX7_end_70 : decode cX7_end 70 = .ok (.if_icmp .eq 9, 3) := by decide +kernel
theorem dX7_end_73 : decode cX7_end 73 = .ok (.iload 5, 2) := by decide +kernel
theorem dX7_end_75 : decode cX7_end 75 = .ok (.iload_n 3, 1) := by decide +kernel
theorem dX7_end_76 : decode cX7_end 76 = .ok (.if_icmp .ne 17, 3) := by decide +kernel
theorem dX7_end_79 : decode cX7_end 79 = .ok (.iload 4, 2) := by decide +kernel
theorem dX7_end_81 : decode cX7_end 81 = .ok (.iconst (-1), 1) := by decide +kernel
theorem dX7_end_82 : decode cX7_end 82 = .ok (.if_icmp .ne 8, 3) := by decide +kernel
theorem dX7_end_85 : decode cX7_end 85 = .ok (.bipush (-2), 2) := by decide +kernel
theorem dX7_end_87 : decode cX7_end 87 = .ok (.goto 5, 3) := by decide +kernel
theorem dX7_end_90 : decode cX7_end 90 = .ok (.iload 4, 2) := by decide +kernel
theorem dX7_end_92 : decode cX7_end 92 = .ok (.ireturn, 1) := by decide +kernel
theorem dX7_end_93 : decode cX7_end 93 = .ok (.aload_n 0, 1) := by decide +kernel
theorem dX7_end_94 : decode cX7_end 94 = .ok (.getfield 21, 3) := by decide +kernel
theorem dX7_end_97 : decode cX7_end 97 = .ok (.iload 5, 2) := by decide +kernel
theorem dX7_end_99 : decode cX7_end 99 = .ok (.invokevirtual 24, 3) := by decide +kernel
theorem dX7_end_102 : decode cX7_end 102 = .ok (.bipush 47, 2) := by decide +kernel
theorem dX7_end_104 : decode cX7_end 104 = .ok (.if_icmp .eq 6, 3) := by decide +kernel
theorem dX7_end_107 : decode cX7_end 107 = .ok (.bipush (-2), 2) := by decide +kernel
theorem dX7_end_109 : decode cX7_end 109 = .ok (.ireturn, 1) := by decide +kernel
theorem dX7_end_110 : decode cX7_end 110 = .ok (.iinc 5 1, 3) := by decide +kernel
theorem dX7_end_113 : decode cX7_end 113 = .ok (.iinc 6 1, 3) := by decide +kernel
theorem dX7_end_116 : decode cX7_end 116 = .ok (.goto (-79), 3) := by decide +kernel
theorem dX7_end_119 : decode cX7_end 119 = .ok (.aload_n 0, 1) := by decide +kernel
theorem dX7_end_120 : decode cX7_end 120 = .ok (.iload 4, 2) := by decide +kernel
theorem dX7_end_122 : decode cX7_end 122 = .ok (.iload 5, 2) := by decide +kernel
theorem dX7_end_124 : decode cX7_end 124 = .ok (.iload_n 3, 1) := by decide +kernel
theorem dX7_end_125 : decode cX7_end 125 = .ok (.invokevirtual 30, 3) := by decide +kernel
theorem dX7_end_128 : decode cX7_end 128 = .ok (.ireturn, 1) := by decide +kernel
theorem dX7_goesUp_0 : decode cX7_goesUp 0 = .ok (.iload_n 1, 1) := by decide +kernel
theorem dX7_goesUp_1 : decode cX7_goesUp 1 = .ok (.iconst 2, 1) := by decide +kernel
theorem dX7_goesUp_2 : decode cX7_goesUp 2 = .ok (.iadd, 1) := by decide +kernel
theorem dX7_goesUp_3 : decode cX7_goesUp 3 = .ok (.iload_n 2, 1) := by decide +kernel
theorem dX7_goesUp_4 : decode cX7_goesUp 4 = .ok (.if_icmp .gt 35, 3) := by decide +kernel
theorem dX7_goesUp_7 : decode cX7_goesUp 7 = .ok (.aload_n 0, 1) := by decide +kernel
theorem dX7_goesUp_8 : decode cX7_goesUp 8 = .ok (.getfield 21, 3) := by decide +kernel
theorem dX7_goesUp_11 : decode cX7_goesUp 11 = .ok (.iload_n 1, 1) := by decide +kernel
theorem dX7_goesUp_12 : decode cX7_goesUp 12 = .ok (.invokevirtual 24, 3) := by decide +kernel
theorem dX7_goesUp_15 : decode cX7_goesUp 15 = .ok (.bipush 46, 2) := by decide +kernel
theorem dX7_goesUp_17 : decode cX7_goesUp 17 = .ok (.if_icmp .ne 22, 3) := by decide +kernel
theorem dX7_goesUp_20 : decode cX7_goesUp 20 = .ok (.aload_n 0, 1) := by decide +kernel
theorem dX7_goesUp_21 : decode cX7_goesUp 21 = .ok (.getfield 21, 3) := by decide +kernel
theorem dX7_goesUp_24 : decode cX7_goesUp 24 = .ok (.iload_n 1, 1) := by decide +kernel
theorem dX7_goesUp_25 : decode cX7_goesUp 25 = .ok (.iconst 1, 1) := by decide +kernel
theorem dX7_goesUp_26 : decode cX7_goesUp 26 = .ok (.iadd, 1) := by decide +kernel
theorem dX7_goesUp_27 : decode cX7_goesUp 27 = .ok (.invokevirtual 24, 3) := by decide +kernel
theorem dX7_goesUp_30 : decode cX7_goesUp 30 = .ok (.bipush 46, 2) := by decide +kernel
theorem dX7_goesUp_32 : decode cX7_goesUp 32 = .ok (.if_icmp .ne 7, 3) := by decide +kernel
theorem dX7_goesUp_35 : decode cX7_goesUp 35 = .ok (.iconst 1, 1) := by decide +kernel
theorem dX7_goesUp_36 : decode cX7_goesUp 36 = .ok (.goto 4, 3) := by decide +kernel
theorem dX7_goesUp_39 : decode cX7_goesUp 39 = .ok (.iconst 0, 1) := by decide +kernel
theorem dX7_goesUp_40 : decode cX7_goesUp 40 = .ok (.ireturn, 1) := by decide +kernel
theorem dX7_down_0 : decode cX7_down 0 = .ok (.iload_n 1, 1) := by decide +kernel
theorem dX7_down_1 : decode cX7_down 1 = .ok (.istore 4, 2) := by decide +kernel
theorem dX7_down_3 : decode cX7_down 3 = .ok (.iload_n 2, 1) := by decide +kernel
theorem dX7_down_4 : decode cX7_down 4 = .ok (.istore 5, 2) := by decide +kernel
theorem dX7_down_6 : decode cX7_down 6 = .ok (.iload_n 2, 1) := by decide +kernel
theorem dX7_down_7 : decode cX7_down 7 = .ok (.istore 6, 2) := by decide +kernel
theorem dX7_down_9 : decode cX7_down 9 = .ok (.iload 6, 2) := by decide +kernel
theorem dX7_down_11 : decode cX7_down 11 = .ok (.iload_n 3, 1) := by decide +kernel
theorem dX7_down_12 : decode cX7_down 12 = .ok (.if_icmp .gt 93, 3) := by decide +kernel
theorem dX7_down_15 : decode cX7_down 15 = .ok (.iload 5, 2) := by decide +kernel
theorem dX7_down_17 : decode cX7_down 17 = .ok (.iload_n 3, 1) := by decide +kernel
theorem dX7_down_18 : decode cX7_down 18 = .ok (.if_icmp .gt 87, 3) := by decide +kernel
theorem dX7_down_21 : decode cX7_down 21 = .ok (.aload_n 0, 1) := by decide +kernel
theorem dX7_down_22 : decode cX7_down 22 = .ok (.bipush 47, 2) := by decide +kernel
theorem dX7_down_24 : decode cX7_down 24 = .ok (.iload 5, 2) := by decide +kernel
theorem dX7_down_26 : decode cX7_down 26 = .ok (.iload_n 3, 1) := by decide +kernel
theorem dX7_down_27 : decode cX7_down 27 = .ok (.invokevirtual 41, 3) := by decide +kernel
theorem dX7_down_30 : decode cX7_down 30 = .ok (.istore 7, 2) := by decide +kernel
theorem dX7_down_32 : decode cX7_down 32 = .ok (.aload_n 0, 1) := by decide +kernel
theorem dX7_down_33 : decode cX7_down 33 = .ok (.bipush 91, 2) := by decide +kernel
theorem dX7_down_35 : decode cX7_down 35 = .ok (.iload 5, 2) := by decide +kernel
theorem dX7_down_37 : decode cX7_down 37 = .ok (.iload 7, 2) := by decide +kernel
theorem dX7_down_39 : decode cX7_down 39 = .ok (.invokevirtual 41, 3) := by decide +kernel
theorem dX7_down_42 : decode cX7_down 42 = .ok (.istore 8, 2) := by decide +kernel
theorem dX7_down_44 : decode cX7_down 44 = .ok (.iload 8, 2) := by decide +kernel
theorem dX7_down_46 : decode cX7_down 46 = .ok (.iload 7, 2) := by decide +kernel
theorem dX7_down_48 : decode cX7_down 48 = .ok (.if_icmp .ne 7, 3) := by decide +kernel
theorem dX7_down_51 : decode cX7_down 51 = .ok (.iconst 1, 1) := by decide +kernel
theorem dX7_down_52 : decode cX7_down 52 = .ok (.goto 13, 3) := by decide +kernel
theorem dX7_down_55 : decode cX7_down 55 = .ok (.aload_n 0, 1) := by decide +kernel
theorem dX7_down_56 : decode cX7_down 56 = .ok (.iload 8, 2) := by decide +kernel
theorem dX7_down_58 : decode cX7_down 58 = .ok (.iconst 1, 1) := by decide +kernel
theorem dX7_down_59 : decode cX7_down 59 = .ok (.iadd, 1) := by decide +kernel
theorem dX7_down_60 : decode cX7_down 60 = .ok (.iload 7, 2) := by decide +kernel
theorem dX7_down_62 : decode cX7_down 62 = .ok (.invokevirtual 44, 3) := by decide +kernel
theorem dX7_down_65 : decode cX7_down 65 = .ok (.istore 9, 2) := by decide +kernel
theorem dX7_down_67 : decode cX7_down 67 = .ok (.aload_n 0, 1) := by decide +kernel
theorem dX7_down_68 : decode cX7_down 68 = .ok (.getfield 9, 3) := by decide +kernel
theorem dX7_down_71 : decode cX7_down 71 = .ok (.iload 4, 2) := by decide +kernel
theorem dX7_down_73 : decode cX7_down 73 = .ok (.iload 5, 2) := by decide +kernel
theorem dX7_down_75 : decode cX7_down 75 = .ok (.iload 8, 2) := by decide +kernel
theorem dX7_down_77 : decode cX7_down 77 = .ok (.iload 9, 2) := by decide +kernel
theorem dX7_down_79 : decode cX7_down 79 = .ok (.invokevirtual 48, 3) := by decide +kernel
theorem dX7_down_82 : decode cX7_down 82 = .ok (.istore 4, 2) := by decide +kernel
theorem dX7_down_84 : decode cX7_down 84 = .ok (.iload 4, 2) := by decide +kernel
theorem dX7_down_86 : decode cX7_down 86 = .ok (.iconst (-1), 1) := by decide +kernel
theorem dX7_down_87 : decode cX7_down 87 = .ok (.if_icmp .ne 6, 3) := by decide +kernel
theorem dX7_down_90 : decode cX7_down 90 = .ok (.bipush (-2), 2) := by decide +kernel
theorem dX7_down_92 : decode cX7_down 92 = .ok (.ireturn, 1) := by decide +kernel
theorem dX7_down_93 : decode cX7_down 93 = .ok (.iload 7, 2) := by decide +kernel
theorem dX7_down_95 : decode cX7_down 95 = .ok (.iconst 1, 1) := by decide +kernel
theorem dX7_down_96 : decode cX7_down 96 = .ok (.iadd, 1) := by decide +kernel
theorem dX7_down_97 : decode cX7_down 97 = .ok (.istore 5, 2) := by decide +kernel
theorem dX7_down_99 : decode cX7_down 99 = .ok (.iinc 6 1, 3) := by decide +kernel
theorem dX7_down_102 : decode cX7_down 102 = .ok (.goto (-93), 3) := by decide +kernel
theorem dX7_down_105 : decode cX7_down 105 = .ok (.iload 4, 2) := by decide +kernel
theorem dX7_down_107 : decode cX7_down 107 = .ok (.ireturn, 1) := by decide +kernel
theorem dX7_rank_0 : decode cX7_rank 0 = .ok (.iload_n 2, 1) := by decide +kernel
theorem dX7_rank_1 : decode cX7_rank 1 = .ok (.iconst 1, 1) := by decide +kernel
theorem dX7_rank_2 : decode cX7_rank 2 = .ok (.isub, 1) := by decide +kernel
theorem dX7_rank_3 : decode cX7_rank 3 = .ok (.istore_n 3, 1) := by decide +kernel
theorem dX7_rank_4 : decode cX7_rank 4 = .ok (.iload_n 3, 1) := by decide +kernel
theorem dX7_rank_5 : decode cX7_rank 5 = .ok (.iload_n 1, 1) := by decide +kernel
theorem dX7_rank_6 : decode cX7_rank 6 = .ok (.if_icmp .le 36, 3) := by decide +kernel
theorem dX7_rank_9 : decode cX7_rank 9 = .ok (.iload_n 3, 1) := by decide +kernel
theorem dX7_rank_10 : decode cX7_rank 10 = .ok (.iload_n 1, 1) := by decide +kernel
theorem dX7_rank_11 : decode cX7_rank 11 = .ok (.isub, 1) := by decide +kernel
theorem dX7_rank_12 : decode cX7_rank 12 = .ok (.iconst 3, 1) := by decide +kernel
theorem dX7_rank_13 : decode cX7_rank 13 = .ok (.if_icmp .gt 29, 3) := by decide +kernel
theorem dX7_rank_16 : decode cX7_rank 16 = .ok (.aload_n 0, 1) := by decide +kernel
theorem dX7_rank_17 : decode cX7_rank 17 = .ok (.getfield 21, 3) := by decide +kernel
theorem dX7_rank_20 : decode cX7_rank 20 = .ok (.iload_n 3, 1) := by decide +kernel
theorem dX7_rank_21 : decode cX7_rank 21 = .ok (.invokevirtual 24, 3) := by decide +kernel
theorem dX7_rank_24 : decode cX7_rank 24 = .ok (.bipush 93, 2) := by decide +kernel
theorem dX7_rank_26 : decode cX7_rank 26 = .ok (.if_icmp .ne 16, 3) := by decide +kernel
theorem dX7_rank_29 : decode cX7_rank 29 = .ok (.aload_n 0, 1) := by decide +kernel
theorem dX7_rank_30 : decode cX7_rank 30 = .ok (.getfield 21, 3) := by decide +kernel
theorem dX7_rank_33 : decode cX7_rank 33 = .ok (.iload_n 1, 1) := by decide +kernel
theorem dX7_rank_34 : decode cX7_rank 34 = .ok (.invokevirtual 24, 3) := by decide +kernel
theorem dX7_rank_37 : decode cX7_rank 37 = .ok (.bipush 48, 2) := by decide +kernel
theorem dX7_rank_39 : decode cX7_rank 39 = .ok (.if_icmp .ne 5, 3) := by decide +kernel
theorem dX7_rank_42 : decode cX7_rank 42 = .ok (.iconst 0, 1) := by decide +kernel
theorem dX7_rank_43 : decode cX7_rank 43 = .ok (.ireturn, 1) := by decide +kernel
theorem dX7_rank_44 : decode cX7_rank 44 = .ok (.iconst 0, 1) := by decide +kernel
theorem dX7_rank_45 : decode cX7_rank 45 = .ok (.istore 4, 2) := by decide +kernel
theorem dX7_rank_47 : decode cX7_rank 47 = .ok (.iload_n 1, 1) := by decide +kernel
theorem dX7_rank_48 : decode cX7_rank 48 = .ok (.istore 5, 2) := by decide +kernel
theorem dX7_rank_50 : decode cX7_rank 50 = .ok (.iload 5, 2) := by decide +kernel
theorem dX7_rank_52 : decode cX7_rank 52 = .ok (.iload_n 3, 1) := by decide +kernel
theorem dX7_rank_53 : decode cX7_rank 53 = .ok (.if_icmp .ge 46, 3) := by decide +kernel
theorem dX7_rank_56 : decode cX7_rank 56 = .ok (.aload_n 0, 1) := by decide +kernel
theorem dX7_rank_57 : decode cX7_rank 57 = .ok (.getfield 21, 3) := by decide +kernel
theorem dX7_rank_60 : decode cX7_rank 60 = .ok (.iload 5, 2) := by decide +kernel
theorem dX7_rank_62 : decode cX7_rank 62 = .ok (.invokevirtual 24, 3) := by decide +kernel
theorem dX7_rank_65 : decode cX7_rank 65 = .ok (.invokestatic 52, 3) := by decide +kernel
theorem dX7_rank_68 : decode cX7_rank 68 = .ok (.ifCond .ne 5, 3) := by decide +kernel
theorem dX7_rank_71 : decode cX7_rank 71 = .ok (.iconst 0, 1) := by decide +kernel
theorem dX7_rank_72 : decode cX7_rank 72 = .ok (.ireturn, 1) := by decide +kernel
theorem dX7_rank_73 : decode cX7_rank 73 = .ok (.iload 4, 2) := by decide +kernel
theorem dX7_rank_75 : decode cX7_rank 75 = .ok (.bipush 10, 2) := by decide +kernel
theorem dX7_rank_77 : decode cX7_rank 77 = .ok (.imul, 1) := by decide +kernel
theorem dX7_rank_78 : decode cX7_rank 78 = .ok (.aload_n 0, 1) := by decide +kernel
theorem dX7_rank_79 : decode cX7_rank 79 = .ok (.getfield 21, 3) := by decide +kernel
theorem dX7_rank_82 : decode cX7_rank 82 = .ok (.iload 5, 2) := by decide +kernel
theorem dX7_rank_84 : decode cX7_rank 84 = .ok (.invokevirtual 24, 3) := by decide +kernel
theorem dX7_rank_87 : decode cX7_rank 87 = .ok (.iadd, 1) := by decide +kernel
theorem dX7_rank_88 : decode cX7_rank 88 = .ok (.bipush 48, 2) := by decide +kernel
theorem dX7_rank_90 : decode cX7_rank 90 = .ok (.isub, 1) := by decide +kernel
theorem dX7_rank_91 : decode cX7_rank 91 = .ok (.istore 4, 2) := by decide +kernel
theorem dX7_rank_93 : decode cX7_rank 93 = .ok (.iinc 5 1, 3) := by decide +kernel
theorem dX7_rank_96 : decode cX7_rank 96 = .ok (.goto (-46), 3) := by decide +kernel
theorem dX7_rank_99 : decode cX7_rank 99 = .ok (.iload 4, 2) := by decide +kernel
theorem dX7_rank_101 : decode cX7_rank 101 = .ok (.iconst 1, 1) := by decide +kernel
theorem dX7_rank_102 : decode cX7_rank 102 = .ok (.if_icmp .ne 7, 3) := by decide +kernel
theorem dX7_rank_105 : decode cX7_rank 105 = .ok (.iconst 0, 1) := by decide +kernel
theorem dX7_rank_106 : decode cX7_rank 106 = .ok (.goto 5, 3) := by decide +kernel
theorem dX7_rank_109 : decode cX7_rank 109 = .ok (.iload 4, 2) := by decide +kernel
theorem dX7_rank_111 : decode cX7_rank 111 = .ok (.ireturn, 1) := by decide +kernel
theorem dX7_placeOf_0 : decode cX7_placeOf 0 = .ok (.iload_n 2, 1) := by decide +kernel
theorem dX7_placeOf_1 : decode cX7_placeOf 1 = .ok (.istore 4, 2) := by decide +kernel
theorem dX7_placeOf_3 : decode cX7_placeOf 3 = .ok (.iload 4, 2) := by decide +kernel
theorem dX7_placeOf_5 : decode cX7_placeOf 5 = .ok (.iload_n 3, 1) := by decide +kernel
theorem dX7_placeOf_6 : decode cX7_placeOf 6 = .ok (.if_icmp .ge 25, 3) := by decide +kernel
theorem dX7_placeOf_9 : decode cX7_placeOf 9 = .ok (.aload_n 0, 1) := by decide +kernel
theorem dX7_placeOf_10 : decode cX7_placeOf 10 = .ok (.getfield 21, 3) := by decide +kernel
theorem dX7_placeOf_13 : decode cX7_placeOf 13 = .ok (.iload 4, 2) := by decide +kernel
theorem dX7_placeOf_15 : decode cX7_placeOf 15 = .ok (.invokevirtual 24, 3) := by decide +kernel
theorem dX7_placeOf_18 : decode cX7_placeOf 18 = .ok (.iload_n 1, 1) := by decide +kernel
theorem dX7_placeOf_19 : decode cX7_placeOf 19 = .ok (.if_icmp .ne 6, 3) := by decide +kernel
theorem dX7_placeOf_22 : decode cX7_placeOf 22 = .ok (.iload 4, 2) := by decide +kernel
theorem dX7_placeOf_24 : decode cX7_placeOf 24 = .ok (.ireturn, 1) := by decide +kernel
theorem dX7_placeOf_25 : decode cX7_placeOf 25 = .ok (.iinc 4 1, 3) := by decide +kernel
theorem dX7_placeOf_28 : decode cX7_placeOf 28 = .ok (.goto (-25), 3) := by decide +kernel
theorem dX7_placeOf_31 : decode cX7_placeOf 31 = .ok (.iload_n 3, 1) := by decide +kernel
theorem dX7_placeOf_32 : decode cX7_placeOf 32 = .ok (.ireturn, 1) := by decide +kernel
theorem dX8_init_0 : decode cX8_init 0 = .ok (.aload_n 0, 1) := by decide +kernel
theorem dX8_init_1 : decode cX8_init 1 = .ok (.invokespecial 3, 3) := by decide +kernel
theorem dX8_init_4 : decode cX8_init 4 = .ok (.aload_n 0, 1) := by decide +kernel
theorem dX8_init_5 : decode cX8_init 5 = .ok (.bipush 30, 2) := by decide +kernel
theorem dX8_init_7 : decode cX8_init 7 = .ok (.newarray .int, 2) := by decide +kernel
theorem dX8_init_9 : decode cX8_init 9 = .ok (.putfield 9, 3) := by decide +kernel
theorem dX8_init_12 : decode cX8_init 12 = .ok (.aload_n 0, 1) := by decide +kernel
theorem dX8_init_13 : decode cX8_init 13 = .ok (.bipush 30, 2) := by decide +kernel
theorem dX8_init_15 : decode cX8_init 15 = .ok (.newarray .int, 2) := by decide +kernel
theorem dX8_init_17 : decode cX8_init 17 = .ok (.putfield 15, 3) := by decide +kernel
theorem dX8_init_20 : decode cX8_init 20 = .ok (.aload_n 0, 1) := by decide +kernel
theorem dX8_init_21 : decode cX8_init 21 = .ok (.bipush 30, 2) := by decide +kernel
theorem dX8_init_23 : decode cX8_init 23 = .ok (.newarray .int, 2) := by decide +kernel
theorem dX8_init_25 : decode cX8_init 25 = .ok (.putfield 18, 3) := by decide +kernel
theorem dX8_init_28 : decode cX8_init 28 = .ok (.aload_n 0, 1) := by decide +kernel
theorem dX8_init_29 : decode cX8_init 29 = .ok (.bipush 30, 2) := by decide +kernel
theorem dX8_init_31 : decode cX8_init 31 = .ok (.newarray .int, 2) := by decide +kernel
theorem dX8_init_33 : decode cX8_init 33 = .ok (.putfield 21, 3) := by decide +kernel
theorem dX8_init_36 : decode cX8_init 36 = .ok (.aload_n 0, 1) := by decide +kernel
theorem dX8_init_37 : decode cX8_init 37 = .ok (.bipush 62, 2) := by decide +kernel
theorem dX8_init_39 : decode cX8_init 39 = .ok (.newarray .int, 2) := by decide +kernel
theorem dX8_init_41 : decode cX8_init 41 = .ok (.putfield 24, 3) := by decide +kernel
theorem dX8_init_44 : decode cX8_init 44 = .ok (.aload_n 0, 1) := by decide +kernel
theorem dX8_init_45 : decode cX8_init 45 = .ok (.bipush 62, 2) := by decide +kernel
theorem dX8_init_47 : decode cX8_init 47 = .ok (.newarray .int, 2) := by decide +kernel
theorem dX8_init_49 : decode cX8_init 49 = .ok (.putfield 27, 3) := by decide +kernel
theorem dX8_init_52 : decode cX8_init 52 = .ok (.aload_n 0, 1) := by decide +kernel
theorem dX8_init_53 : decode cX8_init 53 = .ok (.iconst 0, 1) := by decide +kernel
theorem dX8_init_54 : decode cX8_init 54 = .ok (.putfield 30, 3) := by decide +kernel
theorem dX8_init_57 : decode cX8_init 57 = .ok (.aload_n 0, 1) := by decide +kernel
theorem dX8_init_58 : decode cX8_init 58 = .ok (.iconst 0, 1) := by decide +kernel
theorem dX8_init_59 : decode cX8_init 59 = .ok (.putfield 34, 3) := by decide +kernel
theorem dX8_init_62 : decode cX8_init 62 = .ok (.aload_n 0, 1) := by decide +kernel
theorem dX8_init_63 : decode cX8_init 63 = .ok (.aload_n 1, 1) := by decide +kernel
theorem dX8_init_64 : decode cX8_init 64 = .ok (.putfield 38, 3) := by decide +kernel
theorem dX8_init_67 : decode cX8_init 67 = .ok (.aload_n 0, 1) := by decide +kernel
theorem dX8_init_68 : decode cX8_init 68 = .ok (.aload_n 2, 1) := by decide +kernel
theorem dX8_init_69 : decode cX8_init 69 = .ok (.putfield 42, 3) := by decide +kernel
theorem dX8_init_72 : decode cX8_init 72 = .ok (.aload_n 0, 1) := by decide +kernel
theorem dX8_init_73 : decode cX8_init 73 = .ok (.aload_n 3, 1) := by decide +kernel
theorem dX8_init_74 : decode cX8_init 74 = .ok (.putfield 46, 3) := by decide +kernel
theorem dX8_init_77 : decode cX8_init 77 = .ok (.aload_n 0, 1) := by decide +kernel
theorem dX8_init_78 : decode cX8_init 78 = .ok (.iload 4, 2) := by decide +kernel
theorem dX8_init_80 : decode cX8_init 80 = .ok (.putfield 50, 3) := by decide +kernel
theorem dX8_init_83 : decode cX8_init 83 = .ok (.aload_n 0, 1) := by decide +kernel
theorem dX8_init_84 : decode cX8_init 84 = .ok (.iload 5, 2) := by decide +kernel
theorem dX8_init_86 : decode cX8_init 86 = .ok (.putfield 53, 3) := by decide +kernel
theorem dX8_init_89 : decode cX8_init 89 = .ok (.return_, 1) := by decide +kernel
theorem dX8_failure_0 : decode cX8_failure 0 = .ok (.aload_n 0, 1) := by decide +kernel
theorem dX8_failure_1 : decode cX8_failure 1 = .ok (.getfield 34, 3) := by decide +kernel
theorem dX8_failure_4 : decode cX8_failure 4 = .ok (.ifCond .eq 6, 3) := by decide +kernel
theorem dX8_failure_7 : decode cX8_failure 7 = .ok (.bipush (-3), 2) := by decide +kernel
theorem dX8_failure_9 : decode cX8_failure 9 = .ok (.ireturn, 1) := by decide +kernel
theorem dX8_failure_10 : decode cX8_failure 10 = .ok (.aload_n 0, 1) := by decide +kernel
theorem dX8_failure_11 : decode cX8_failure 11 = .ok (.getfield 46, 3) := by decide +kernel
theorem dX8_failure_14 : decode cX8_failure 14 = .ok (.invokevirtual 56, 3) := by decide +kernel
theorem dX8_failure_17 : decode cX8_failure 17 = .ok (.ifCond .eq 8, 3) := by decide +kernel
theorem dX8_failure_20 : decode cX8_failure 20 = .ok (.bipush (-4), 2) := by decide +kernel
theorem dX8_failure_22 : decode cX8_failure 22 = .ok (.goto 4, 3) := by decide +kernel
theorem dX8_failure_25 : decode cX8_failure 25 = .ok (.iconst 0, 1) := by decide +kernel
theorem dX8_failure_26 : decode cX8_failure 26 = .ok (.ireturn, 1) := by decide +kernel
theorem dX8_element_0 : decode cX8_element 0 = .ok (.aload_n 0, 1) := by decide +kernel
theorem dX8_element_1 : decode cX8_element 1 = .ok (.getfield 34, 3) := by decide +kernel
theorem dX8_element_4 : decode cX8_element 4 = .ok (.ifCond .ne 24, 3) := by decide +kernel
theorem dX8_element_7 : decode cX8_element 7 = .ok (.aload_n 0, 1) := by decide +kernel
theorem dX8_element_8 : decode cX8_element 8 = .ok (.getfield 46, 3) := by decide +kernel
theorem dX8_element_11 : decode cX8_element 11 = .ok (.invokevirtual 56, 3) := by decide +kernel
theorem dX8_element_14 : decode cX8_element 14 = .ok (.ifCond .ne 14, 3) := by decide +kernel
theorem dX8_element_17 : decode cX8_element 17 = .ok (.aload_n 0, 1) := by decide +kernel
theorem dX8_element_18 : decode cX8_element 18 = .ok (.getfield 42, 3) := by decide +kernel
theorem dX8_element_21 : decode cX8_element 21 = .ok (.iload_n 1, 1) := by decide +kernel
theorem dX8_element_22 : decode cX8_element 22 = .ok (.invokevirtual 62, 3) := by decide +kernel
theorem dX8_element_25 : decode cX8_element 25 = .ok (.ifCond .ne 4, 3) := by decide +kernel
theorem dX8_element_28 : decode cX8_element 28 = .ok (.return_, 1) := by decide +kernel
theorem dX8_element_29 : decode cX8_element 29 = .ok (.aload_n 0, 1) := by decide +kernel
theorem dX8_element_30 : decode cX8_element 30 = .ok (.getfield 50, 3) := by decide +kernel
theorem dX8_element_33 : decode cX8_element 33 = .ok (.iconst 3, 1) := by decide +kernel
theorem dX8_element_34 : decode cX8_element 34 = .ok (.if_icmp .eq 20, 3) := by decide +kernel
theorem dX8_element_37 : decode cX8_element 37 = .ok (.aload_n 0, 1) := by decide +kernel
theorem dX8_element_38 : decode cX8_element 38 = .ok (.getfield 9, 3) := by decide +kernel
theorem dX8_element_41 : decode cX8_element 41 = .ok (.iload_n 1, 1) := by decide +kernel
theorem dX8_element_42 : decode cX8_element 42 = .ok (.iaload, 1) := by decide +kernel
theorem dX8_element_43 : decode cX8_element 43 = .ok (.ifCond .le 11, 3) := by decide +kernel
theorem dX8_element_46 : decode cX8_element 46 = .ok (.aload_n 0, 1) := by decide +kernel
theorem dX8_element_47 : decode cX8_element 47 = .ok (.iload_n 1, 1) := by decide +kernel
theorem dX8_element_48 : decode cX8_element 48 = .ok (.iload_n 2, 1) := by decide +kernel
theorem dX8_element_49 : decode cX8_element 49 = .ok (.iload_n 3, 1) := by decide +kernel
theorem dX8_element_50 : decode cX8_element 50 = .ok (.invokevirtual 68, 3) := by decide +kernel
theorem dX8_element_53 : decode cX8_element 53 = .ok (.return_, 1) := by decide +kernel
theorem dX8_element_54 : decode cX8_element 54 = .ok (.iload 5, 2) := by decide +kernel
theorem dX8_element_56 : decode cX8_element 56 = .ok (.aload_n 0, 1) := by decide +kernel
theorem dX8_element_57 : decode cX8_element 57 = .ok (.getfield 53, 3) := by decide +kernel
theorem dX8_element_60 : decode cX8_element 60 = .ok (.if_icmp .lt 9, 3) := by decide +kernel
theorem dX8_element_63 : decode cX8_element 63 = .ok (.aload_n 0, 1) := by decide +kernel
theorem dX8_element_64 : decode cX8_element 64 = .ok (.iconst 1, 1) := by decide +kernel
theorem dX8_element_65 : decode cX8_element 65 = .ok (.putfield 34, 3) := by decide +kernel
theorem dX8_element_68 : decode cX8_element 68 = .ok (.return_, 1) := by decide +kernel
theorem dX8_element_69 : decode cX8_element 69 = .ok (.aload_n 0, 1) := by decide +kernel
theorem dX8_element_70 : decode cX8_element 70 = .ok (.dup, 1) := by decide +kernel
theorem dX8_element_71 : decode cX8_element 71 = .ok (.getfield 30, 3) := by decide +kernel
theorem dX8_element_74 : decode cX8_element 74 = .ok (.iconst 1, 1) := by decide +kernel
theorem dX8_element_75 : decode cX8_element 75 = .ok (.iadd, 1) := by decide +kernel
theorem dX8_element_76 : decode cX8_element 76 = .ok (.putfield 30, 3) := by decide +kernel
theorem dX8_element_79 : decode cX8_element 79 = .ok (.aload_n 0, 1) := by decide +kernel
theorem dX8_element_80 : decode cX8_element 80 = .ok (.getfield 9, 3) := by decide +kernel
theorem dX8_element_83 : decode cX8_element 83 = .ok (.iload_n 1, 1) := by decide +kernel
theorem dX8_element_84 : decode cX8_element 84 = .ok (.aload_n 0, 1) := by decide +kernel
theorem dX8_element_85 : decode cX8_element 85 = .ok (.getfield 30, 3) := by decide +kernel
theorem dX8_element_88 : decode cX8_element 88 = .ok (.iastore, 1) := by decide +kernel
theorem dX8_element_89 : decode cX8_element 89 = .ok (.aload_n 0, 1) := by decide +kernel
theorem dX8_element_90 : decode cX8_element 90 = .ok (.getfield 15, 3) := by decide +kernel
theorem dX8_element_93 : decode cX8_element 93 = .ok (.iload_n 1, 1) := by decide +kernel
theorem dX8_element_94 : decode cX8_element 94 = .ok (.iload_n 2, 1) := by decide +kernel
theorem dX8_element_95 : decode cX8_element 95 = .ok (.iastore, 1) := by decide +kernel
theorem dX8_element_96 : decode cX8_element 96 = .ok (.aload_n 0, 1) := by decide +kernel
theorem dX8_element_97 : decode cX8_element 97 = .ok (.getfield 18, 3) := by decide +kernel
theorem dX8_element_100 : decode cX8_element 100 = .ok (.iload_n 1, 1) := by decide +kernel
theorem dX8_element_101 : decode cX8_element 101 = .ok (.iload_n 3, 1) := by decide +kernel
theorem dX8_element_102 : decode cX8_element 102 = .ok (.iastore, 1) := by decide +kernel
theorem dX8_element_103 : decode cX8_element 103 = .ok (.aload_n 0, 1) := by decide +kernel
theorem dX8_element_104 : decode cX8_element 104 = .ok (.getfield 21, 3) := by decide +kernel
theorem dX8_element_107 : decode cX8_element 107 = .ok (.iload_n 1, 1) := by decide +kernel
theorem dX8_element_108 : decode cX8_element 108 = .ok (.iload 4, 2) := by decide +kernel
theorem dX8_element_110 : decode cX8_element 110 = .ok (.iastore, 1) := by decide +kernel
theorem dX8_element_111 : decode cX8_element 111 = .ok (.aload_n 0, 1) := by decide +kernel
theorem dX8_element_112 : decode cX8_element 112 = .ok (.iload_n 1, 1) := by decide +kernel
theorem dX8_element_113 : decode cX8_element 113 = .ok (.iload_n 2, 1) := by decide +kernel
theorem dX8_element_114 : decode cX8_element 114 = .ok (.iload_n 3, 1) := by decide +kernel
theorem dX8_element_115 : decode cX8_element 115 = .ok (.invokevirtual 72, 3) := by decide +kernel
theorem dX8_element_118 : decode cX8_element 118 = .ok (.istore 6, 2) := by decide +kernel
theorem dX8_element_120 : decode cX8_element 120 = .ok (.aload_n 0, 1) := by decide +kernel
theorem dX8_element_121 : decode cX8_element 121 = .ok (.iload_n 1, 1) := by decide +kernel
theorem dX8_element_122 : decode cX8_element 122 = .ok (.iload 6, 2) := by decide +kernel
theorem dX8_element_124 : decode cX8_element 124 = .ok (.invokevirtual 76, 3) := by decide +kernel
theorem dX8_element_127 : decode cX8_element 127 = .ok (.aload_n 0, 1) := by decide +kernel
theorem dX8_element_128 : decode cX8_element 128 = .ok (.iload_n 1, 1) := by decide +kernel
theorem dX8_element_129 : decode cX8_element 129 = .ok (.invokevirtual 80, 3) := by decide +kernel
theorem dX8_element_132 : decode cX8_element 132 = .ok (.ifCond .ne 13, 3) := by decide +kernel
theorem dX8_element_135 : decode cX8_element 135 = .ok (.aload_n 0, 1) := by decide +kernel
theorem dX8_element_136 : decode cX8_element 136 = .ok (.getfield 46, 3) := by decide +kernel
theorem dX8_element_139 : decode cX8_element 139 = .ok (.ldc 83, 2) := by decide +kernel
theorem dX8_element_141 : decode cX8_element 141 = .ok (.invokevirtual 85, 3) := by decide +kernel
theorem dX8_element_144 : decode cX8_element 144 = .ok (.return_, 1) := by decide +kernel
theorem dX8_element_145 : decode cX8_element 145 = .ok (.aload_n 0, 1) := by decide +kernel
theorem dX8_element_146 : decode cX8_element 146 = .ok (.getfield 46, 3) := by decide +kernel
theorem dX8_element_149 : decode cX8_element 149 = .ok (.bipush 62, 2) := by decide +kernel
theorem dX8_element_151 : decode cX8_element 151 = .ok (.invokevirtual 89, 3) := by decide +kernel
theorem dX8_element_154 : decode cX8_element 154 = .ok (.pop, 1) := by decide +kernel
theorem dX8_element_155 : decode cX8_element 155 = .ok (.iconst 0, 1) := by decide +kernel
theorem dX8_element_156 : decode cX8_element 156 = .ok (.istore 7, 2) := by decide +kernel
theorem dX8_element_158 : decode cX8_element 158 = .ok (.iload 7, 2) := by decide +kernel
theorem dX8_element_160 : decode cX8_element 160 = .ok (.iconst 4, 1) := by decide +kernel
theorem dX8_element_161 : decode cX8_element 161 = .ok (.if_icmp .ge 18, 3) := by decide +kernel
theorem dX8_element_164 : decode cX8_element 164 = .ok (.aload_n 0, 1) := by decide +kernel
theorem dX8_element_165 : decode cX8_element 165 = .ok (.iload_n 1, 1) := by decide +kernel
theorem dX8_element_166 : decode cX8_element 166 = .ok (.iload 7, 2) := by decide +kernel
theorem dX8_element_168 : decode cX8_element 168 = .ok (.iload 5, 2) := by decide +kernel
theorem dX8_element_170 : decode cX8_element 170 = .ok (.invokevirtual 92, 3) := by decide +kernel
theorem dX8_element_173 : decode cX8_element 173 = .ok (.iinc 7 1, 3) := by decide +kernel
theorem dX8_element_176 : decode cX8_element 176 = .ok (.goto (-18), 3) := by decide +kernel
theorem dX8_element_179 : decode cX8_element 179 = .ok (.aload_n 0, 1) := by decide +kernel
theorem dX8_element_180 : decode cX8_element 180 = .ok (.iload 6, 2) := by decide +kernel
theorem dX8_element_182 : decode cX8_element 182 = .ok (.invokevirtual 95, 3) := by decide +kernel
theorem dX8_element_185 : decode cX8_element 185 = .ok (.return_, 1) := by decide +kernel
theorem dX8_nameOf_0 : decode cX8_nameOf 0 = .ok (.aload_n 0, 1) := by decide +kernel
theorem dX8_nameOf_1 : decode cX8_nameOf 1 = .ok (.getfield 42, 3) := by decide +kernel
theorem dX8_nameOf_4 : decode cX8_nameOf 4 = .ok (.iload_n 2, 1) := by decide +kernel
theorem dX8_nameOf_5 : decode cX8_nameOf 5 = .ok (.invokevirtual 99, 3) := by decide +kernel
theorem dX8_nameOf_8 : decode cX8_nameOf 8 = .ok (.istore 4, 2) := by decide +kernel
theorem dX8_nameOf_10 : decode cX8_nameOf 10 = .ok (.aload_n 0, 1) := by decide +kernel
theorem dX8_nameOf_11 : decode cX8_nameOf 11 = .ok (.getfield 38, 3) := by decide +kernel
theorem dX8_nameOf_14 : decode cX8_nameOf 14 = .ok (.iload 4, 2) := by decide +kernel
theorem dX8_nameOf_16 : decode cX8_nameOf 16 = .ok (.iload_n 3, 1) := by decide +kernel
theorem dX8_nameOf_17 : decode cX8_nameOf 17 = .ok (.invokevirtual 103, 3) := by decide +kernel
theorem dX8_nameOf_20 : decode cX8_nameOf 20 = .ok (.iconst 3, 1) := by decide +kernel
theorem dX8_nameOf_21 : decode cX8_nameOf 21 = .ok (.if_icmp .ne 12, 3) := by decide +kernel
theorem dX8_nameOf_24 : decode cX8_nameOf 24 = .ok (.iload 4, 2) := by decide +kernel
theorem dX8_nameOf_26 : decode cX8_nameOf 26 = .ok (.iload_n 3, 1) := by decide +kernel
theorem dX8_nameOf_27 : decode cX8_nameOf 27 = .ok (.invokestatic 109, 3) := by decide +kernel
theorem dX8_nameOf_30 : decode cX8_nameOf 30 = .ok (.goto 11, 3) := by decide +kernel
theorem dX8_nameOf_33 : decode cX8_nameOf 33 = .ok (.aload_n 0, 1) := by decide +kernel
theorem dX8_nameOf_34 : decode cX8_nameOf 34 = .ok (.getfield 42, 3) := by decide +kernel
theorem dX8_nameOf_37 : decode cX8_nameOf 37 = .ok (.iload_n 1, 1) := by decide +kernel
theorem dX8_nameOf_38 : decode cX8_nameOf 38 = .ok (.invokevirtual 99, 3) := by decide +kernel
theorem dX8_nameOf_41 : decode cX8_nameOf 41 = .ok (.ireturn, 1) := by decide +kernel
theorem dX8_startTag_0 : decode cX8_startTag 0 = .ok (.aload_n 0, 1) := by decide +kernel
theorem dX8_startTag_1 : decode cX8_startTag 1 = .ok (.getfield 42, 3) := by decide +kernel
theorem dX8_startTag_4 : decode cX8_startTag 4 = .ok (.iload_n 1, 1) := by decide +kernel
theorem dX8_startTag_5 : decode cX8_startTag 5 = .ok (.invokevirtual 99, 3) := by decide +kernel
theorem dX8_startTag_8 : decode cX8_startTag 8 = .ok (.istore_n 3, 1) := by decide +kernel
theorem dX8_startTag_9 : decode cX8_startTag 9 = .ok (.aload_n 0, 1) := by decide +kernel
theorem dX8_startTag_10 : decode cX8_startTag 10 = .ok (.getfield 46, 3) := by decide +kernel
theorem dX8_startTag_13 : decode cX8_startTag 13 = .ok (.bipush 60, 2) := by decide +kernel
theorem dX8_startTag_15 : decode cX8_startTag 15 = .ok (.invokevirtual 89, 3) := by decide +kernel
theorem dX8_startTag_18 : decode cX8_startTag 18 = .ok (.pop, 1) := by decide +kernel
theorem dX8_startTag_19 : decode cX8_startTag 19 = .ok (.aload_n 0, 1) := by decide +kernel
theorem dX8_startTag_20 : decode cX8_startTag 20 = .ok (.getfield 38, 3) := by decide +kernel
theorem dX8_startTag_23 : decode cX8_startTag 23 = .ok (.aload_n 0, 1) := by decide +kernel
theorem dX8_startTag_24 : decode cX8_startTag 24 = .ok (.getfield 46, 3) := by decide +kernel
theorem dX8_startTag_27 : decode cX8_startTag 27 = .ok (.iload_n 2, 1) := by decide +kernel
theorem dX8_startTag_28 : decode cX8_startTag 28 = .ok (.invokevirtual 112, 3) := by decide +kernel
theorem dX8_startTag_31 : decode cX8_startTag 31 = .ok (.iload_n 2, 1) := by decide +kernel
theorem dX8_startTag_32 : decode cX8_startTag 32 = .ok (.invokestatic 116, 3) := by decide +kernel
theorem dX8_startTag_35 : decode cX8_startTag 35 = .ok (.ifCond .eq 34, 3) := by decide +kernel
theorem dX8_startTag_38 : decode cX8_startTag 38 = .ok (.aload_n 0, 1) := by decide +kernel
theorem dX8_startTag_39 : decode cX8_startTag 39 = .ok (.getfield 46, 3) := by decide +kernel
theorem dX8_startTag_42 : decode cX8_startTag 42 = .ok (.ldc 119, 2) := by decide +kernel
theorem dX8_startTag_44 : decode cX8_startTag 44 = .ok (.invokevirtual 85, 3) := by decide +kernel
theorem dX8_startTag_47 : decode cX8_startTag 47 = .ok (.aload_n 0, 1) := by decide +kernel
theorem dX8_startTag_48 : decode cX8_startTag 48 = .ok (.getfield 38, 3) := by decide +kernel
theorem dX8_startTag_51 : decode cX8_startTag 51 = .ok (.aload_n 0, 1) := by decide +kernel
theorem dX8_startTag_52 : decode cX8_startTag 52 = .ok (.getfield 46, 3) := by decide +kernel
theorem dX8_startTag_55 : decode cX8_startTag 55 = .ok (.iload_n 3, 1) := by decide +kernel
theorem dX8_startTag_56 : decode cX8_startTag 56 = .ok (.invokevirtual 112, 3) := by decide +kernel
theorem dX8_startTag_59 : decode cX8_startTag 59 = .ok (.aload_n 0, 1) := by decide +kernel
theorem dX8_startTag_60 : decode cX8_startTag 60 = .ok (.getfield 46, 3) := by decide +kernel
theorem dX8_startTag_63 : decode cX8_startTag 63 = .ok (.bipush 34, 2) := by decide +kernel
theorem dX8_startTag_65 : decode cX8_startTag 65 = .ok (.invokevirtual 89, 3) := by decide +kernel
theorem dX8_startTag_68 : decode cX8_startTag 68 = .ok (.pop, 1) := by decide +kernel
theorem dX8_startTag_69 : decode cX8_startTag 69 = .ok (.aload_n 0, 1) := by decide +kernel
theorem dX8_startTag_70 : decode cX8_startTag 70 = .ok (.getfield 50, 3) := by decide +kernel
theorem dX8_startTag_73 : decode cX8_startTag 73 = .ok (.iconst 2, 1) := by decide +kernel
theorem dX8_startTag_74 : decode cX8_startTag 74 = .ok (.if_icmp .ne 32, 3) := by decide +kernel
theorem dX8_startTag_77 : decode cX8_startTag 77 = .ok (.aload_n 0, 1) := by decide +kernel
theorem dX8_startTag_78 : decode cX8_startTag 78 = .ok (.getfield 46, 3) := by decide +kernel
theorem dX8_startTag_81 : decode cX8_startTag 81 = .ok (.ldc 121, 2) := by decide +kernel
theorem dX8_startTag_83 : decode cX8_startTag 83 = .ok (.invokevirtual 85, 3) := by decide +kernel
theorem dX8_startTag_86 : decode cX8_startTag 86 = .ok (.aload_n 0, 1) := by decide +kernel
theorem dX8_startTag_87 : decode cX8_startTag 87 = .ok (.aload_n 0, 1) := by decide +kernel
theorem dX8_startTag_88 : decode cX8_startTag 88 = .ok (.getfield 9, 3) := by decide +kernel
theorem dX8_startTag_91 : decode cX8_startTag 91 = .ok (.iload_n 1, 1) := by decide +kernel
theorem dX8_startTag_92 : decode cX8_startTag 92 = .ok (.iaload, 1) := by decide +kernel
theorem dX8_startTag_93 : decode cX8_startTag 93 = .ok (.invokevirtual 123, 3) := by decide +kernel
theorem dX8_startTag_96 : decode cX8_startTag 96 = .ok (.aload_n 0, 1) := by decide +kernel
theorem dX8_startTag_97 : decode cX8_startTag 97 = .ok (.getfield 46, 3) := by decide +kernel
theorem dX8_startTag_100 : decode cX8_startTag 100 = .ok (.bipush 34, 2) := by decide +kernel
theorem dX8_startTag_102 : decode cX8_startTag 102 = .ok (.invokevirtual 89, 3) := by decide +kernel
theorem dX8_startTag_105 : decode cX8_startTag 105 = .ok (.pop, 1) := by decide +kernel
theorem dX8_startTag_106 : decode cX8_startTag 106 = .ok (.iconst 0, 1) := by decide +kernel
theorem dX8_startTag_107 : decode cX8_startTag 107 = .ok (.istore 4, 2) := by decide +kernel
theorem dX8_startTag_109 : decode cX8_startTag 109 = .ok (.iload 4, 2) := by decide +kernel
theorem dX8_startTag_111 : decode cX8_startTag 111 = .ok (.aload_n 0, 1) := by decide +kernel
theorem dX8_startTag_112 : decode cX8_startTag 112 = .ok (.getfield 38, 3) := by decide +kernel
theorem dX8_startTag_115 : decode cX8_startTag 115 = .ok (.iload_n 3, 1) := by decide +kernel
theorem dX8_startTag_116 : decode cX8_startTag 116 = .ok (.invokevirtual 126, 3) := by decide +kernel
theorem dX8_startTag_119 : decode cX8_startTag 119 = .ok (.if_icmp .ge 76, 3) := by decide +kernel
theorem dX8_startTag_122 : decode cX8_startTag 122 = .ok (.aload_n 0, 1) := by decide +kernel
theorem dX8_startTag_123 : decode cX8_startTag 123 = .ok (.getfield 38, 3) := by decide +kernel
theorem dX8_startTag_126 : decode cX8_startTag 126 = .ok (.iload_n 3, 1) := by decide +kernel
theorem dX8_startTag_127 : decode cX8_startTag 127 = .ok (.iload 4, 2) := by decide +kernel
theorem dX8_startTag_129 : decode cX8_startTag 129 = .ok (.invokevirtual 129, 3) := by decide +kernel
theorem dX8_startTag_132 : decode cX8_startTag 132 = .ok (.ifCond .eq 57, 3) := by decide +kernel
theorem dX8_startTag_135 : decode cX8_startTag 135 = .ok (.aload_n 0, 1) := by decide +kernel
theorem dX8_startTag_136 : decode cX8_startTag 136 = .ok (.getfield 46, 3) := by decide +kernel
theorem dX8_startTag_139 : decode cX8_startTag 139 = .ok (.bipush 32, 2) := by decide +kernel
theorem dX8_startTag_141 : decode cX8_startTag 141 = .ok (.invokevirtual 89, 3) := by decide +kernel
theorem dX8_startTag_144 : decode cX8_startTag 144 = .ok (.pop, 1) := by decide +kernel
theorem dX8_startTag_145 : decode cX8_startTag 145 = .ok (.aload_n 0, 1) := by decide +kernel
theorem dX8_startTag_146 : decode cX8_startTag 146 = .ok (.getfield 38, 3) := by decide +kernel
theorem dX8_startTag_149 : decode cX8_startTag 149 = .ok (.aload_n 0, 1) := by decide +kernel
theorem dX8_startTag_150 : decode cX8_startTag 150 = .ok (.getfield 46, 3) := by decide +kernel
theorem dX8_startTag_153 : decode cX8_startTag 153 = .ok (.iload_n 3, 1) := by decide +kernel
theorem dX8_startTag_154 : decode cX8_startTag 154 = .ok (.iload 4, 2) := by decide +kernel
theorem dX8_startTag_156 : decode cX8_startTag 156 = .ok (.invokestatic 109, 3) := by decide +kernel
theorem dX8_startTag_159 : decode cX8_startTag 159 = .ok (.invokevirtual 112, 3) := by decide +kernel
theorem dX8_startTag_162 : decode cX8_startTag 162 = .ok (.aload_n 0, 1) := by decide +kernel
theorem dX8_startTag_163 : decode cX8_startTag 163 = .ok (.getfield 46, 3) := by decide +kernel
theorem dX8_startTag_166 : decode cX8_startTag 166 = .ok (.ldc 133, 2) := by decide +kernel
theorem dX8_startTag_168 : decode cX8_startTag 168 = .ok (.invokevirtual 85, 3) := by decide +kernel
theorem dX8_startTag_171 : decode cX8_startTag 171 = .ok (.aload_n 0, 1) := by decide +kernel
theorem dX8_startTag_172 : decode cX8_startTag 172 = .ok (.iload_n 1, 1) := by decide +kernel
theorem dX8_startTag_173 : decode cX8_startTag 173 = .ok (.iload 4, 2) := by decide +kernel
theorem dX8_startTag_175 : decode cX8_startTag 175 = .ok (.iconst 1, 1) := by decide +kernel
theorem dX8_startTag_176 : decode cX8_startTag 176 = .ok (.invokevirtual 135, 3) := by decide +kernel
theorem dX8_startTag_179 : decode cX8_startTag 179 = .ok (.aload_n 0, 1) := by decide +kernel
theorem dX8_startTag_180 : decode cX8_startTag 180 = .ok (.getfield 46, 3) := by decide +kernel
theorem dX8_startTag_183 : decode cX8_startTag 183 = .ok (.bipush 34, 2) := by decide +kernel
theorem dX8_startTag_185 : decode cX8_startTag 185 = .ok (.invokevirtual 89, 3) := by decide +kernel
theorem dX8_startTag_188 : decode cX8_startTag 188 = .ok (.pop, 1) := by decide +kernel
theorem dX8_startTag_189 : decode cX8_startTag 189 = .ok (.iinc 4 1, 3) := by decide +kernel
theorem dX8_startTag_192 : decode cX8_startTag 192 = .ok (.goto (-83), 3) := by decide +kernel
theorem dX8_startTag_195 : decode cX8_startTag 195 = .ok (.return_, 1) := by decide +kernel
theorem dX8_endTag_0 : decode cX8_endTag 0 = .ok (.aload_n 0, 1) := by decide +kernel
theorem dX8_endTag_1 : decode cX8_endTag 1 = .ok (.getfield 46, 3) := by decide +kernel
theorem dX8_endTag_4 : decode cX8_endTag 4 = .ok (.ldc 139, 2) := by decide +kernel
theorem dX8_endTag_6 : decode cX8_endTag 6 = .ok (.invokevirtual 85, 3) := by decide +kernel
theorem dX8_endTag_9 : decode cX8_endTag 9 = .ok (.aload_n 0, 1) := by decide +kernel
theorem dX8_endTag_10 : decode cX8_endTag 10 = .ok (.getfield 38, 3) := by decide +kernel
theorem dX8_endTag_13 : decode cX8_endTag 13 = .ok (.aload_n 0, 1) := by decide +kernel
theorem dX8_endTag_14 : decode cX8_endTag 14 = .ok (.getfield 46, 3) := by decide +kernel
theorem dX8_endTag_17 : decode cX8_endTag 17 = .ok (.iload_n 1, 1) := by decide +kernel
theorem dX8_endTag_18 : decode cX8_endTag 18 = .ok (.invokevirtual 112, 3) := by decide +kernel
theorem dX8_endTag_21 : decode cX8_endTag 21 = .ok (.aload_n 0, 1) := by decide +kernel
theorem dX8_endTag_22 : decode cX8_endTag 22 = .ok (.getfield 46, 3) := by decide +kernel
theorem dX8_endTag_25 : decode cX8_endTag 25 = .ok (.bipush 62, 2) := by decide +kernel
theorem dX8_endTag_27 : decode cX8_endTag 27 = .ok (.invokevirtual 89, 3) := by decide +kernel
theorem dX8_endTag_30 : decode cX8_endTag 30 = .ok (.pop, 1) := by decide +kernel
theorem dX8_endTag_31 : decode cX8_endTag 31 = .ok (.return_, 1) := by decide +kernel
theorem dX8_hasContent_0 : decode cX8_hasContent 0 = .ok (.aload_n 0, 1) := by decide +kernel
theorem dX8_hasContent_1 : decode cX8_hasContent 1 = .ok (.getfield 42, 3) := by decide +kernel
theorem dX8_hasContent_4 : decode cX8_hasContent 4 = .ok (.iload_n 1, 1) := by decide +kernel
theorem dX8_hasContent_5 : decode cX8_hasContent 5 = .ok (.invokevirtual 99, 3) := by decide +kernel
theorem dX8_hasContent_8 : decode cX8_hasContent 8 = .ok (.istore_n 2, 1) := by decide +kernel
theorem dX8_hasContent_9 : decode cX8_hasContent 9 = .ok (.iconst 0, 1) := by decide +kernel
theorem dX8_hasContent_10 : decode cX8_hasContent 10 = .ok (.istore_n 3, 1) := by decide +kernel
theorem dX8_hasContent_11 : decode cX8_hasContent 11 = .ok (.iload_n 3, 1) := by decide +kernel
theorem dX8_hasContent_12 : decode cX8_hasContent 12 = .ok (.aload_n 0, 1) := by decide +kernel
theorem dX8_hasContent_13 : decode cX8_hasContent 13 = .ok (.getfield 38, 3) := by decide +kernel
theorem dX8_hasContent_16 : decode cX8_hasContent 16 = .ok (.iload_n 2, 1) := by decide +kernel
theorem dX8_hasContent_17 : decode cX8_hasContent 17 = .ok (.invokevirtual 126, 3) := by decide +kernel
theorem dX8_hasContent_20 : decode cX8_hasContent 20 = .ok (.if_icmp .ge 33, 3) := by decide +kernel
theorem dX8_hasContent_23 : decode cX8_hasContent 23 = .ok (.aload_n 0, 1) := by decide +kernel
theorem dX8_hasContent_24 : decode cX8_hasContent 24 = .ok (.getfield 38, 3) := by decide +kernel
theorem dX8_hasContent_27 : decode cX8_hasContent 27 = .ok (.iload_n 2, 1) := by decide +kernel
theorem dX8_hasContent_28 : decode cX8_hasContent 28 = .ok (.iload_n 3, 1) := by decide +kernel
theorem dX8_hasContent_29 : decode cX8_hasContent 29 = .ok (.invokevirtual 129, 3) := by decide +kernel
theorem dX8_hasContent_32 : decode cX8_hasContent 32 = .ok (.ifCond .ne 15, 3) := by decide +kernel
theorem dX8_hasContent_35 : decode cX8_hasContent 35 = .ok (.aload_n 0, 1) := by decide +kernel
theorem dX8_hasContent_36 : decode cX8_hasContent 36 = .ok (.iload_n 1, 1) := by decide +kernel
theorem dX8_hasContent_37 : decode cX8_hasContent 37 = .ok (.iload_n 2, 1) := by decide +kernel
theorem dX8_hasContent_38 : decode cX8_hasContent 38 = .ok (.iload_n 3, 1) := by decide +kernel
theorem dX8_hasContent_39 : decode cX8_hasContent 39 = .ok (.invokevirtual 141, 3) := by decide +kernel
theorem dX8_hasContent_42 : decode cX8_hasContent 42 = .ok (.ifCond .eq 5, 3) := by decide +kernel
theorem dX8_hasContent_45 : decode cX8_hasContent 45 = .ok (.iconst 1, 1) := by decide +kernel
theorem dX8_hasContent_46 : decode cX8_hasContent 46 = .ok (.ireturn, 1) := by decide +kernel
theorem dX8_hasContent_47 : decode cX8_hasContent 47 = .ok (.iinc 3 1, 3) := by decide +kernel
theorem dX8_hasContent_50 : decode cX8_hasContent 50 = .ok (.goto (-39), 3) := by decide +kernel
theorem dX8_hasContent_53 : decode cX8_hasContent 53 = .ok (.iconst 0, 1) := by decide +kernel
theorem dX8_hasContent_54 : decode cX8_hasContent 54 = .ok (.ireturn, 1) := by decide +kernel
theorem dX8_hasElement_0 : decode cX8_hasElement 0 = .ok (.aload_n 0, 1) := by decide +kernel
theorem dX8_hasElement_1 : decode cX8_hasElement 1 = .ok (.getfield 38, 3) := by decide +kernel
theorem dX8_hasElement_4 : decode cX8_hasElement 4 = .ok (.iload_n 2, 1) := by decide +kernel
theorem dX8_hasElement_5 : decode cX8_hasElement 5 = .ok (.iload_n 3, 1) := by decide +kernel
theorem dX8_hasElement_6 : decode cX8_hasElement 6 = .ok (.invokevirtual 103, 3) := by decide +kernel
theorem dX8_hasElement_9 : decode cX8_hasElement 9 = .ok (.iconst 3, 1) := by decide +kernel
theorem dX8_hasElement_10 : decode cX8_hasElement 10 = .ok (.if_icmp .ne 23, 3) := by decide +kernel
theorem dX8_hasElement_13 : decode cX8_hasElement 13 = .ok (.aload_n 0, 1) := by decide +kernel
theorem dX8_hasElement_14 : decode cX8_hasElement 14 = .ok (.getfield 42, 3) := by decide +kernel
theorem dX8_hasElement_17 : decode cX8_hasElement 17 = .ok (.iload_n 1, 1) := by decide +kernel
theorem dX8_hasElement_18 : decode cX8_hasElement 18 = .ok (.iload_n 3, 1) := by decide +kernel
theorem dX8_hasElement_19 : decode cX8_hasElement 19 = .ok (.invokevirtual 145, 3) := by decide +kernel
theorem dX8_hasElement_22 : decode cX8_hasElement 22 = .ok (.bipush (-2), 2) := by decide +kernel
theorem dX8_hasElement_24 : decode cX8_hasElement 24 = .ok (.if_icmp .eq 7, 3) := by decide +kernel
theorem dX8_hasElement_27 : decode cX8_hasElement 27 = .ok (.iconst 1, 1) := by decide +kernel
theorem dX8_hasElement_28 : decode cX8_hasElement 28 = .ok (.goto 4, 3) := by decide +kernel
theorem dX8_hasElement_31 : decode cX8_hasElement 31 = .ok (.iconst 0, 1) := by decide +kernel
theorem dX8_hasElement_32 : decode cX8_hasElement 32 = .ok (.ireturn, 1) := by decide +kernel
theorem dX8_hasElement_33 : decode cX8_hasElement 33 = .ok (.aload_n 0, 1) := by decide +kernel
theorem dX8_hasElement_34 : decode cX8_hasElement 34 = .ok (.getfield 38, 3) := by decide +kernel
theorem dX8_hasElement_37 : decode cX8_hasElement 37 = .ok (.iload_n 2, 1) := by decide +kernel
theorem dX8_hasElement_38 : decode cX8_hasElement 38 = .ok (.invokevirtual 148, 3) := by decide +kernel
theorem dX8_hasElement_41 : decode cX8_hasElement 41 = .ok (.iload_n 3, 1) := by decide +kernel
theorem dX8_hasElement_42 : decode cX8_hasElement 42 = .ok (.if_icmp .ne 15, 3) := by decide +kernel
theorem dX8_hasElement_45 : decode cX8_hasElement 45 = .ok (.aload_n 0, 1) := by decide +kernel
theorem dX8_hasElement_46 : decode cX8_hasElement 46 = .ok (.getfield 42, 3) := by decide +kernel
theorem dX8_hasElement_49 : decode cX8_hasElement 49 = .ok (.iload_n 1, 1) := by decide +kernel
theorem dX8_hasElement_50 : decode cX8_hasElement 50 = .ok (.iload_n 3, 1) := by decide +kernel
theorem dX8_hasElement_51 : decode cX8_hasElement 51 = .ok (.invokevirtual 145, 3) := by decide +kernel
theorem dX8_hasElement_54 : decode cX8_hasElement 54 = .ok (.ifCond .le 7, 3) := by decide +kernel
theorem dX8_hasElement_57 : decode cX8_hasElement 57 = .ok (.iconst 1, 1) := by decide +kernel
theorem dX8_hasElement_58 : decode cX8_hasElement 58 = .ok (.goto 4, 3) := by decide +kernel
theorem dX8_hasElement_61 : decode cX8_hasElement 61 = .ok (.iconst 0, 1) := by decide +kernel
theorem dX8_hasElement_62 : decode cX8_hasElement 62 = .ok (.ireturn, 1) := by decide +kernel
theorem dX8_content_0 : decode cX8_content 0 = .ok (.aload_n 0, 1) := by decide +kernel
theorem dX8_content_1 : decode cX8_content 1 = .ok (.getfield 42, 3) := by decide +kernel
theorem dX8_content_4 : decode cX8_content 4 = .ok (.iload_n 1, 1) := by decide +kernel
theorem dX8_content_5 : decode cX8_content 5 = .ok (.invokevirtual 99, 3) := by decide +kernel
theorem dX8_content_8 : decode cX8_content 8 = .ok (.istore 4, 2) := by decide +kernel
theorem dX8_content_10 : decode cX8_content 10 = .ok (.aload_n 0, 1) := by decide +kernel
theorem dX8_content_11 : decode cX8_content 11 = .ok (.getfield 38, 3) := by decide +kernel
theorem dX8_content_14 : decode cX8_content 14 = .ok (.iload 4, 2) := by decide +kernel
theorem dX8_content_16 : decode cX8_content 16 = .ok (.iload_n 2, 1) := by decide +kernel
theorem dX8_content_17 : decode cX8_content 17 = .ok (.invokevirtual 103, 3) := by decide +kernel
theorem dX8_content_20 : decode cX8_content 20 = .ok (.istore 5, 2) := by decide +kernel
theorem dX8_content_22 : decode cX8_content 22 = .ok (.iload 5, 2) := by decide +kernel
theorem dX8_content_24 : decode cX8_content 24 = .ok (.ifCond .eq 16, 3) := by decide +kernel
theorem dX8_content_27 : decode cX8_content 27 = .ok (.aload_n 0, 1) := by decide +kernel
theorem dX8_content_28 : decode cX8_content 28 = .ok (.getfield 38, 3) := by decide +kernel
theorem dX8_content_31 : decode cX8_content 31 = .ok (.iload 4, 2) := by decide +kernel
theorem dX8_content_33 : decode cX8_content 33 = .ok (.iload_n 2, 1) := by decide +kernel
theorem dX8_content_34 : decode cX8_content 34 = .ok (.invokevirtual 129, 3) := by decide +kernel
theorem dX8_content_37 : decode cX8_content 37 = .ok (.ifCond .eq 4, 3) := by decide +kernel
theorem dX8_content_40 : decode cX8_content 40 = .ok (.return_, 1) := by decide +kernel
theorem dX8_content_41 : decode cX8_content 41 = .ok (.iload 5, 2) := by decide +kernel
theorem dX8_content_43 : decode cX8_content 43 = .ok (.iconst 3, 1) := by decide +kernel
theorem dX8_content_44 : decode cX8_content 44 = .ok (.if_icmp .ne 23, 3) := by decide +kernel
theorem dX8_content_47 : decode cX8_content 47 = .ok (.aload_n 0, 1) := by decide +kernel
theorem dX8_content_48 : decode cX8_content 48 = .ok (.aload_n 0, 1) := by decide +kernel
theorem dX8_content_49 : decode cX8_content 49 = .ok (.getfield 42, 3) := by decide +kernel
theorem dX8_content_52 : decode cX8_content 52 = .ok (.iload_n 1, 1) := by decide +kernel
theorem dX8_content_53 : decode cX8_content 53 = .ok (.iload_n 2, 1) := by decide +kernel
theorem dX8_content_54 : decode cX8_content 54 = .ok (.invokevirtual 145, 3) := by decide +kernel
theorem dX8_content_57 : decode cX8_content 57 = .ok (.iload_n 1, 1) := by decide +kernel
theorem dX8_content_58 : decode cX8_content 58 = .ok (.iload_n 2, 1) := by decide +kernel
theorem dX8_content_59 : decode cX8_content 59 = .ok (.iconst 0, 1) := by decide +kernel
theorem dX8_content_60 : decode cX8_content 60 = .ok (.iload_n 3, 1) := by decide +kernel
theorem dX8_content_61 : decode cX8_content 61 = .ok (.iconst 1, 1) := by decide +kernel
theorem dX8_content_62 : decode cX8_content 62 = .ok (.iadd, 1) := by decide +kernel
theorem dX8_content_63 : decode cX8_content 63 = .ok (.invokevirtual 151, 3) := by decide +kernel
theorem dX8_content_66 : decode cX8_content 66 = .ok (.return_, 1) := by decide +kernel
theorem dX8_content_67 : decode cX8_content 67 = .ok (.aload_n 0, 1) := by decide +kernel
theorem dX8_content_68 : decode cX8_content 68 = .ok (.getfield 38, 3) := by decide +kernel
theorem dX8_content_71 : decode cX8_content 71 = .ok (.iload 4, 2) := by decide +kernel
theorem dX8_content_73 : decode cX8_content 73 = .ok (.invokevirtual 148, 3) := by decide +kernel
theorem dX8_content_76 : decode cX8_content 76 = .ok (.iload_n 2, 1) := by decide +kernel
theorem dX8_content_77 : decode cX8_content 77 = .ok (.if_icmp .ne 11, 3) := by decide +kernel
theorem dX8_content_80 : decode cX8_content 80 = .ok (.aload_n 0, 1) := by decide +kernel
theorem dX8_content_81 : decode cX8_content 81 = .ok (.iload_n 1, 1) := by decide +kernel
theorem dX8_content_82 : decode cX8_content 82 = .ok (.iload_n 2, 1) := by decide +kernel
theorem dX8_content_83 : decode cX8_content 83 = .ok (.iload_n 3, 1) := by decide +kernel
theorem dX8_content_84 : decode cX8_content 84 = .ok (.invokevirtual 155, 3) := by decide +kernel
theorem dX8_content_87 : decode cX8_content 87 = .ok (.return_, 1) := by decide +kernel
theorem dX8_content_88 : decode cX8_content 88 = .ok (.iload 4, 2) := by decide +kernel
theorem dX8_content_90 : decode cX8_content 90 = .ok (.iload_n 2, 1) := by decide +kernel
theorem dX8_content_91 : decode cX8_content 91 = .ok (.invokestatic 109, 3) := by decide +kernel
theorem dX8_content_94 : decode cX8_content 94 = .ok (.istore 6, 2) := by decide +kernel
theorem dX8_content_96 : decode cX8_content 96 = .ok (.aload_n 0, 1) := by decide +kernel
theorem dX8_content_97 : decode cX8_content 97 = .ok (.getfield 46, 3) := by decide +kernel
theorem dX8_content_100 : decode cX8_content 100 = .ok (.bipush 60, 2) := by decide +kernel
theorem dX8_content_102 : decode cX8_content 102 = .ok (.invokevirtual 89, 3) := by decide +kernel
theorem dX8_content_105 : decode cX8_content 105 = .ok (.pop, 1) := by decide +kernel
theorem dX8_content_106 : decode cX8_content 106 = .ok (.aload_n 0, 1) := by decide +kernel
theorem dX8_content_107 : decode cX8_content 107 = .ok (.getfield 38, 3) := by decide +kernel
theorem dX8_content_110 : decode cX8_content 110 = .ok (.aload_n 0, 1) := by decide +kernel
theorem dX8_content_111 : decode cX8_content 111 = .ok (.getfield 46, 3) := by decide +kernel
theorem dX8_content_114 : decode cX8_content 114 = .ok (.iload 6, 2) := by decide +kernel
theorem dX8_content_116 : decode cX8_content 116 = .ok (.invokevirtual 112, 3) := by decide +kernel
theorem dX8_content_119 : decode cX8_content 119 = .ok (.iload 5, 2) := by decide +kernel
theorem dX8_content_121 : decode cX8_content 121 = .ok (.iconst 1, 1) := by decide +kernel
theorem dX8_content_122 : decode cX8_content 122 = .ok (.if_icmp .eq 25, 3) := by decide +kernel
theorem dX8_content_125 : decode cX8_content 125 = .ok (.aload_n 0, 1) := by decide +kernel
theorem dX8_content_126 : decode cX8_content 126 = .ok (.getfield 42, 3) := by decide +kernel
theorem dX8_content_129 : decode cX8_content 129 = .ok (.iload_n 1, 1) := by decide +kernel
theorem dX8_content_130 : decode cX8_content 130 = .ok (.iload_n 2, 1) := by decide +kernel
theorem dX8_content_131 : decode cX8_content 131 = .ok (.invokevirtual 145, 3) := by decide +kernel
theorem dX8_content_134 : decode cX8_content 134 = .ok (.ifCond .ne 13, 3) := by decide +kernel
theorem dX8_content_137 : decode cX8_content 137 = .ok (.aload_n 0, 1) := by decide +kernel
theorem dX8_content_138 : decode cX8_content 138 = .ok (.getfield 46, 3) := by decide +kernel
theorem dX8_content_141 : decode cX8_content 141 = .ok (.ldc 83, 2) := by decide +kernel
theorem dX8_content_143 : decode cX8_content 143 = .ok (.invokevirtual 85, 3) := by decide +kernel
theorem dX8_content_146 : decode cX8_content 146 = .ok (.return_, 1) := by decide +kernel
theorem dX8_content_147 : decode cX8_content 147 = .ok (.aload_n 0, 1) := by decide +kernel
theorem dX8_content_148 : decode cX8_content 148 = .ok (.getfield 46, 3) := by decide +kernel
theorem dX8_content_151 : decode cX8_content 151 = .ok (.bipush 62, 2) := by decide +kernel
theorem dX8_content_153 : decode cX8_content 153 = .ok (.invokevirtual 89, 3) := by decide +kernel
theorem dX8_content_156 : decode cX8_content 156 = .ok (.pop, 1) := by decide +kernel
theorem dX8_content_157 : decode cX8_content 157 = .ok (.iload 5, 2) := by decide +kernel
theorem dX8_content_159 : decode cX8_content 159 = .ok (.iconst 4, 1) := by decide +kernel
theorem dX8_content_160 : decode cX8_content 160 = .ok (.if_icmp .ne 13, 3) := by decide +kernel
theorem dX8_content_163 : decode cX8_content 163 = .ok (.aload_n 0, 1) := by decide +kernel
theorem dX8_content_164 : decode cX8_content 164 = .ok (.iload_n 1, 1) := by decide +kernel
theorem dX8_content_165 : decode cX8_content 165 = .ok (.iload_n 2, 1) := by decide +kernel
theorem dX8_content_166 : decode cX8_content 166 = .ok (.iload_n 3, 1) := by decide +kernel
theorem dX8_content_167 : decode cX8_content 167 = .ok (.invokevirtual 155, 3) := by decide +kernel
theorem dX8_content_170 : decode cX8_content 170 = .ok (.goto 10, 3) := by decide +kernel
theorem dX8_content_173 : decode cX8_content 173 = .ok (.aload_n 0, 1) := by decide +kernel
theorem dX8_content_174 : decode cX8_content 174 = .ok (.iload_n 1, 1) := by decide +kernel
theorem dX8_content_175 : decode cX8_content 175 = .ok (.iload_n 2, 1) := by decide +kernel
theorem dX8_content_176 : decode cX8_content 176 = .ok (.iconst 0, 1) := by decide +kernel
theorem dX8_content_177 : decode cX8_content 177 = .ok (.invokevirtual 135, 3) := by decide +kernel
theorem dX8_content_180 : decode cX8_content 180 = .ok (.aload_n 0, 1) := by decide +kernel
theorem dX8_content_181 : decode cX8_content 181 = .ok (.iload 6, 2) := by decide +kernel
theorem dX8_content_183 : decode cX8_content 183 = .ok (.invokevirtual 95, 3) := by decide +kernel
theorem dX8_content_186 : decode cX8_content 186 = .ok (.return_, 1) := by decide +kernel
theorem dX8_items_0 : decode cX8_items 0 = .ok (.iconst 0, 1) := by decide +kernel
theorem dX8_items_1 : decode cX8_items 1 = .ok (.istore 4, 2) := by decide +kernel
theorem dX8_items_3 : decode cX8_items 3 = .ok (.iload 4, 2) := by decide +kernel
theorem dX8_items_5 : decode cX8_items 5 = .ok (.bipush 8, 2) := by decide +kernel
theorem dX8_items_7 : decode cX8_items 7 = .ok (.if_icmp .ge 45, 3) := by decide +kernel
theorem dX8_items_10 : decode cX8_items 10 = .ok (.iload 4, 2) := by decide +kernel
theorem dX8_items_12 : decode cX8_items 12 = .ok (.aload_n 0, 1) := by decide +kernel
theorem dX8_items_13 : decode cX8_items 13 = .ok (.getfield 42, 3) := by decide +kernel
theorem dX8_items_16 : decode cX8_items 16 = .ok (.iload_n 1, 1) := by decide +kernel
theorem dX8_items_17 : decode cX8_items 17 = .ok (.iload_n 2, 1) := by decide +kernel
theorem dX8_items_18 : decode cX8_items 18 = .ok (.invokevirtual 145, 3) := by decide +kernel
theorem dX8_items_21 : decode cX8_items 21 = .ok (.if_icmp .ge 31, 3) := by decide +kernel
theorem dX8_items_24 : decode cX8_items 24 = .ok (.aload_n 0, 1) := by decide +kernel
theorem dX8_items_25 : decode cX8_items 25 = .ok (.aload_n 0, 1) := by decide +kernel
theorem dX8_items_26 : decode cX8_items 26 = .ok (.getfield 42, 3) := by decide +kernel
theorem dX8_items_29 : decode cX8_items 29 = .ok (.iload_n 1, 1) := by decide +kernel
theorem dX8_items_30 : decode cX8_items 30 = .ok (.iload_n 2, 1) := by decide +kernel
theorem dX8_items_31 : decode cX8_items 31 = .ok (.iload 4, 2) := by decide +kernel
theorem dX8_items_33 : decode cX8_items 33 = .ok (.invokevirtual 158, 3) := by decide +kernel
theorem dX8_items_36 : decode cX8_items 36 = .ok (.iload_n 1, 1) := by decide +kernel
theorem dX8_items_37 : decode cX8_items 37 = .ok (.iload_n 2, 1) := by decide +kernel
theorem dX8_items_38 : decode cX8_items 38 = .ok (.iload 4, 2) := by decide +kernel
theorem dX8_items_40 : decode cX8_items 40 = .ok (.iload_n 3, 1) := by decide +kernel
theorem dX8_items_41 : decode cX8_items 41 = .ok (.iconst 1, 1) := by decide +kernel
theorem dX8_items_42 : decode cX8_items 42 = .ok (.iadd, 1) := by decide +kernel
theorem dX8_items_43 : decode cX8_items 43 = .ok (.invokevirtual 151, 3) := by decide +kernel
theorem dX8_items_46 : decode cX8_items 46 = .ok (.iinc 4 1, 3) := by decide +kernel
theorem dX8_items_49 : decode cX8_items 49 = .ok (.goto (-46), 3) := by decide +kernel
theorem dX8_items_52 : decode cX8_items 52 = .ok (.return_, 1) := by decide +kernel
theorem dX8_single_0 : decode cX8_single 0 = .ok (.aload_n 0, 1) := by decide +kernel
theorem dX8_single_1 : decode cX8_single 1 = .ok (.getfield 38, 3) := by decide +kernel
theorem dX8_single_4 : decode cX8_single 4 = .ok (.aload_n 0, 1) := by decide +kernel
theorem dX8_single_5 : decode cX8_single 5 = .ok (.getfield 42, 3) := by decide +kernel
theorem dX8_single_8 : decode cX8_single 8 = .ok (.iload_n 1, 1) := by decide +kernel
theorem dX8_single_9 : decode cX8_single 9 = .ok (.invokevirtual 99, 3) := by decide +kernel
theorem dX8_single_12 : decode cX8_single 12 = .ok (.iload_n 2, 1) := by decide +kernel
theorem dX8_single_13 : decode cX8_single 13 = .ok (.invokevirtual 103, 3) := by decide +kernel
theorem dX8_single_16 : decode cX8_single 16 = .ok (.iconst 1, 1) := by decide +kernel
theorem dX8_single_17 : decode cX8_single 17 = .ok (.if_icmp .ne 17, 3) := by decide +kernel
theorem dX8_single_20 : decode cX8_single 20 = .ok (.aload_n 0, 1) := by decide +kernel
theorem dX8_single_21 : decode cX8_single 21 = .ok (.aload_n 0, 1) := by decide +kernel
theorem dX8_single_22 : decode cX8_single 22 = .ok (.getfield 42, 3) := by decide +kernel
theorem dX8_single_25 : decode cX8_single 25 = .ok (.iload_n 1, 1) := by decide +kernel
theorem dX8_single_26 : decode cX8_single 26 = .ok (.iload_n 2, 1) := by decide +kernel
theorem dX8_single_27 : decode cX8_single 27 = .ok (.invokevirtual 145, 3) := by decide +kernel
theorem dX8_single_30 : decode cX8_single 30 = .ok (.invokevirtual 123, 3) := by decide +kernel
theorem dX8_single_33 : decode cX8_single 33 = .ok (.return_, 1) := by decide +kernel
theorem dX8_single_34 : decode cX8_single 34 = .ok (.iconst 0, 1) := by decide +kernel
theorem dX8_single_35 : decode cX8_single 35 = .ok (.istore 4, 2) := by decide +kernel
theorem dX8_single_37 : decode cX8_single 37 = .ok (.iload 4, 2) := by decide +kernel
theorem dX8_single_39 : decode cX8_single 39 = .ok (.bipush 20, 2) := by decide +kernel
theorem dX8_single_41 : decode cX8_single 41 = .ok (.if_icmp .ge 39, 3) := by decide +kernel
theorem dX8_single_44 : decode cX8_single 44 = .ok (.iload 4, 2) := by decide +kernel
theorem dX8_single_46 : decode cX8_single 46 = .ok (.aload_n 0, 1) := by decide +kernel
theorem dX8_single_47 : decode cX8_single 47 = .ok (.getfield 42, 3) := by decide +kernel
theorem dX8_single_50 : decode cX8_single 50 = .ok (.iload_n 1, 1) := by decide +kernel
theorem dX8_single_51 : decode cX8_single 51 = .ok (.iload_n 2, 1) := by decide +kernel
theorem dX8_single_52 : decode cX8_single 52 = .ok (.invokevirtual 145, 3) := by decide +kernel
theorem dX8_single_55 : decode cX8_single 55 = .ok (.if_icmp .ge 25, 3) := by decide +kernel
theorem dX8_single_58 : decode cX8_single 58 = .ok (.aload_n 0, 1) := by decide +kernel
theorem dX8_single_59 : decode cX8_single 59 = .ok (.aload_n 0, 1) := by decide +kernel
theorem dX8_single_60 : decode cX8_single 60 = .ok (.getfield 42, 3) := by decide +kernel
theorem dX8_single_63 : decode cX8_single 63 = .ok (.iload_n 1, 1) := by decide +kernel
theorem dX8_single_64 : decode cX8_single 64 = .ok (.iload_n 2, 1) := by decide +kernel
theorem dX8_single_65 : decode cX8_single 65 = .ok (.iload 4, 2) := by decide +kernel
theorem dX8_single_67 : decode cX8_single 67 = .ok (.invokevirtual 158, 3) := by decide +kernel
theorem dX8_single_70 : decode cX8_single 70 = .ok (.iload_n 3, 1) := by decide +kernel
theorem dX8_single_71 : decode cX8_single 71 = .ok (.invokevirtual 161, 3) := by decide +kernel
theorem dX8_single_74 : decode cX8_single 74 = .ok (.iinc 4 1, 3) := by decide +kernel
theorem dX8_single_77 : decode cX8_single 77 = .ok (.goto (-40), 3) := by decide +kernel
theorem dX8_single_80 : decode cX8_single 80 = .ok (.return_, 1) := by decide +kernel
theorem dX8_escaped_0 : decode cX8_escaped 0 = .ok (.iload_n 1, 1) := by decide +kernel
theorem dX8_escaped_1 : decode cX8_escaped 1 = .ok (.bipush 38, 2) := by decide +kernel
theorem dX8_escaped_3 : decode cX8_escaped 3 = .ok (.if_icmp .ne 15, 3) := by decide +kernel
theorem dX8_escaped_6 : decode cX8_escaped 6 = .ok (.aload_n 0, 1) := by decide +kernel
theorem dX8_escaped_7 : decode cX8_escaped 7 = .ok (.getfield 46, 3) := by decide +kernel
theorem dX8_escaped_10 : decode cX8_escaped 10 = .ok (.ldc 165, 2) := by decide +kernel
theorem dX8_escaped_12 : decode cX8_escaped 12 = .ok (.invokevirtual 85, 3) := by decide +kernel
theorem dX8_escaped_15 : decode cX8_escaped 15 = .ok (.goto 70, 3) := by decide +kernel
theorem dX8_escaped_18 : decode cX8_escaped 18 = .ok (.iload_n 1, 1) := by decide +kernel
theorem dX8_escaped_19 : decode cX8_escaped 19 = .ok (.bipush 60, 2) := by decide +kernel
theorem dX8_escaped_21 : decode cX8_escaped 21 = .ok (.if_icmp .ne 15, 3) := by decide +kernel
theorem dX8_escaped_24 : decode cX8_escaped 24 = .ok (.aload_n 0, 1) := by decide +kernel
theorem dX8_escaped_25 : decode cX8_escaped 25 = .ok (.getfield 46, 3) := by decide +kernel
theorem dX8_escaped_28 : decode cX8_escaped 28 = .ok (.ldc 167, 2) := by decide +kernel
theorem dX8_escaped_30 : decode cX8_escaped 30 = .ok (.invokevirtual 85, 3) := by decide +kernel
theorem dX8_escaped_33 : decode cX8_escaped 33 = .ok (.goto 52, 3) := by decide +kernel
theorem dX8_escaped_36 : decode cX8_escaped 36 = .ok (.iload_n 1, 1) := by decide +kernel
theorem dX8_escaped_37 : decode cX8_escaped 37 = .ok (.bipush 62, 2) := by decide +kernel
theorem dX8_escaped_39 : decode cX8_escaped 39 = .ok (.if_icmp .ne 15, 3) := by decide +kernel
theorem dX8_escaped_42 : decode cX8_escaped 42 = .ok (.aload_n 0, 1) := by decide +kernel
theorem dX8_escaped_43 : decode cX8_escaped 43 = .ok (.getfield 46, 3) := by decide +kernel
theorem dX8_escaped_46 : decode cX8_escaped 46 = .ok (.ldc 169, 2) := by decide +kernel
theorem dX8_escaped_48 : decode cX8_escaped 48 = .ok (.invokevirtual 85, 3) := by decide +kernel
theorem dX8_escaped_51 : decode cX8_escaped 51 = .ok (.goto 34, 3) := by decide +kernel
theorem dX8_escaped_54 : decode cX8_escaped 54 = .ok (.iload_n 1, 1) := by decide +kernel
theorem dX8_escaped_55 : decode cX8_escaped 55 = .ok (.bipush 34, 2) := by decide +kernel
theorem dX8_escaped_57 : decode cX8_escaped 57 = .ok (.if_icmp .ne 19, 3) := by decide +kernel
theorem dX8_escaped_60 : decode cX8_escaped 60 = .ok (.iload_n 2, 1) := by decide +kernel
theorem dX8_escaped_61 : decode cX8_escaped 61 = .ok (.ifCond .eq 15, 3) := by decide +kernel
theorem dX8_escaped_64 : decode cX8_escaped 64 = .ok (.aload_n 0, 1) := by decide +kernel
theorem dX8_escaped_65 : decode cX8_escaped 65 = .ok (.getfield 46, 3) := by decide +kernel
theorem dX8_escaped_68 : decode cX8_escaped 68 = .ok (.ldc 171, 2) := by decide +kernel
theorem dX8_escaped_70 : decode cX8_escaped 70 = .ok (.invokevirtual 85, 3) := by decide +kernel
theorem dX8_escaped_73 : decode cX8_escaped 73 = .ok (.goto 12, 3) := by decide +kernel
theorem dX8_escaped_76 : decode cX8_escaped 76 = .ok (.aload_n 0, 1) := by decide +kernel
theorem dX8_escaped_77 : decode cX8_escaped 77 = .ok (.getfield 46, 3) := by decide +kernel
theorem dX8_escaped_80 : decode cX8_escaped 80 = .ok (.iload_n 1, 1) := by decide +kernel
theorem dX8_escaped_81 : decode cX8_escaped 81 = .ok (.invokevirtual 89, 3) := by decide +kernel
theorem dX8_escaped_84 : decode cX8_escaped 84 = .ok (.pop, 1) := by decide +kernel
theorem dX8_escaped_85 : decode cX8_escaped 85 = .ok (.return_, 1) := by decide +kernel
theorem dX8_number_0 : decode cX8_number 0 = .ok (.iload_n 1, 1) := by decide +kernel
theorem dX8_number_1 : decode cX8_number 1 = .ok (.i2l, 1) := by decide +kernel
theorem dX8_number_2 : decode cX8_number 2 = .ok (.invokestatic 173, 3) := by decide +kernel
theorem dX8_number_5 : decode cX8_number 5 = .ok (.lstore_n 2, 1) := by decide +kernel
theorem dX8_number_6 : decode cX8_number 6 = .ok (.lconst 1, 1) := by decide +kernel
theorem dX8_number_7 : decode cX8_number 7 = .ok (.lstore 4, 2) := by decide +kernel
theorem dX8_number_9 : decode cX8_number 9 = .ok (.iconst 0, 1) := by decide +kernel
theorem dX8_number_10 : decode cX8_number 10 = .ok (.istore 6, 2) := by decide +kernel
theorem dX8_number_12 : decode cX8_number 12 = .ok (.iload 6, 2) := by decide +kernel
theorem dX8_number_14 : decode cX8_number 14 = .ok (.bipush 9, 2) := by decide +kernel
theorem dX8_number_16 : decode cX8_number 16 = .ok (.if_icmp .ge 28, 3) := by decide +kernel
theorem dX8_number_19 : decode cX8_number 19 = .ok (.lload 4, 2) := by decide +kernel
theorem dX8_number_21 : decode cX8_number 21 = .ok (.ldc2_w 179, 3) := by decide +kernel
theorem dX8_number_24 : decode cX8_number 24 = .ok (.lmul, 1) := by decide +kernel
theorem dX8_number_25 : decode cX8_number 25 = .ok (.lload_n 2, 1) := by decide +kernel
theorem dX8_number_26 : decode cX8_number 26 = .ok (.lcmp, 1) := by decide +kernel
theorem dX8_number_27 : decode cX8_number 27 = .ok (.ifCond .gt 17, 3) := by decide +kernel
theorem dX8_number_30 : decode cX8_number 30 = .ok (.lload 4, 2) := by decide +kernel
theorem dX8_number_32 : decode cX8_number 32 = .ok (.ldc2_w 179, 3) := by decide +kernel
theorem dX8_number_35 : decode cX8_number 35 = .ok (.lmul, 1) := by decide +kernel
theorem dX8_number_36 : decode cX8_number 36 = .ok (.lstore 4, 2) := by decide +kernel
theorem dX8_number_38 : decode cX8_number 38 = .ok (.iinc 6 1, 3) := by decide +kernel
theorem dX8_number_41 : decode cX8_number 41 = .ok (.goto (-29), 3) := by decide +kernel
theorem dX8_number_44 : decode cX8_number 44 = .ok (.iload_n 1, 1) := by decide +kernel
theorem dX8_number_45 : decode cX8_number 45 = .ok (.ifCond .ge 13, 3) := by decide +kernel
theorem dX8_number_48 : decode cX8_number 48 = .ok (.aload_n 0, 1) := by decide +kernel
theorem dX8_number_49 : decode cX8_number 49 = .ok (.getfield 46, 3) := by decide +kernel
theorem dX8_number_52 : decode cX8_number 52 = .ok (.bipush 45, 2) := by decide +kernel
theorem dX8_number_54 : decode cX8_number 54 = .ok (.invokevirtual 89, 3) := by decide +kernel
theorem dX8_number_57 : decode cX8_number 57 = .ok (.pop, 1) := by decide +kernel
theorem dX8_number_58 : decode cX8_number 58 = .ok (.iconst 0, 1) := by decide +kernel
theorem dX8_number_59 : decode cX8_number 59 = .ok (.istore 6, 2) := by decide +kernel
theorem dX8_number_61 : decode cX8_number 61 = .ok (.iload 6, 2) := by decide +kernel
theorem dX8_number_63 : decode cX8_number 63 = .ok (.bipush 10, 2) := by decide +kernel
theorem dX8_number_65 : decode cX8_number 65 = .ok (.if_icmp .ge 44, 3) := by decide +kernel
theorem dX8_number_68 : decode cX8_number 68 = .ok (.lload 4, 2) := by decide +kernel
theorem dX8_number_70 : decode cX8_number 70 = .ok (.lconst 0, 1) := by decide +kernel
theorem dX8_number_71 : decode cX8_number 71 = .ok (.lcmp, 1) := by decide +kernel
theorem dX8_number_72 : decode cX8_number 72 = .ok (.ifCond .le 37, 3) := by decide +kernel
theorem dX8_number_75 : decode cX8_number 75 = .ok (.aload_n 0, 1) := by decide +kernel
theorem dX8_number_76 : decode cX8_number 76 = .ok (.getfield 46, 3) := by decide +kernel
theorem dX8_number_79 : decode cX8_number 79 = .ok (.bipush 48, 2) := by decide +kernel
theorem dX8_number_81 : decode cX8_number 81 = .ok (.lload_n 2, 1) := by decide +kernel
theorem dX8_number_82 : decode cX8_number 82 = .ok (.lload 4, 2) := by decide +kernel
theorem dX8_number_84 : decode cX8_number 84 = .ok (.ldiv, 1) := by decide +kernel
theorem dX8_number_85 : decode cX8_number 85 = .ok (.ldc2_w 179, 3) := by decide +kernel
theorem dX8_number_88 : decode cX8_number 88 = .ok (.lrem, 1) := by decide +kernel
theorem dX8_number_89 : decode cX8_number 89 = .ok (.l2i, 1) := by decide +kernel
theorem dX8_number_90 : decode cX8_number 90 = .ok (.iadd, 1) := by decide +kernel
theorem dX8_number_91 : decode cX8_number 91 = .ok (.invokevirtual 89, 3) := by decide +kernel
theorem dX8_number_94 : decode cX8_number 94 = .ok (.pop, 1) := by decide +kernel
theorem dX8_number_95 : decode cX8_number 95 = .ok (.lload 4, 2) := by decide +kernel
theorem dX8_number_97 : decode cX8_number 97 = .ok (.ldc2_w 179, 3) := by decide +kernel
theorem dX8_number_100 : decode cX8_number 100 = .ok (.ldiv, 1) := by decide +kernel
theorem dX8_number_101 : decode cX8_number 101 = .ok (.lstore 4, 2) := by decide +kernel
theorem dX8_number_103 : decode cX8_number 103 = .ok (.iinc 6 1, 3) := by decide +kernel
theorem dX8_number_106 : decode cX8_number 106 = .ok (.goto (-45), 3) := by decide +kernel
theorem dX8_number_109 : decode cX8_number 109 = .ok (.return_, 1) := by decide +kernel
theorem dX8_reference_0 : decode cX8_reference 0 = .ok (.aload_n 0, 1) := by decide +kernel
theorem dX8_reference_1 : decode cX8_reference 1 = .ok (.iload_n 1, 1) := by decide +kernel
theorem dX8_reference_2 : decode cX8_reference 2 = .ok (.iload_n 2, 1) := by decide +kernel
theorem dX8_reference_3 : decode cX8_reference 3 = .ok (.iload_n 3, 1) := by decide +kernel
theorem dX8_reference_4 : decode cX8_reference 4 = .ok (.invokevirtual 72, 3) := by decide +kernel
theorem dX8_reference_7 : decode cX8_reference 7 = .ok (.istore 4, 2) := by decide +kernel
theorem dX8_reference_9 : decode cX8_reference 9 = .ok (.aload_n 0, 1) := by decide +kernel
theorem dX8_reference_10 : decode cX8_reference 10 = .ok (.getfield 46, 3) := by decide +kernel
theorem dX8_reference_13 : decode cX8_reference 13 = .ok (.bipush 60, 2) := by decide +kernel
theorem dX8_reference_15 : decode cX8_reference 15 = .ok (.invokevirtual 89, 3) := by decide +kernel
theorem dX8_reference_18 : decode cX8_reference 18 = .ok (.pop, 1) := by decide +kernel
theorem dX8_reference_19 : decode cX8_reference 19 = .ok (.aload_n 0, 1) := by decide +kernel
theorem dX8_reference_20 : decode cX8_reference 20 = .ok (.getfield 38, 3) := by decide +kernel
theorem dX8_reference_23 : decode cX8_reference 23 = .ok (.aload_n 0, 1) := by decide +kernel
theorem dX8_reference_24 : decode cX8_reference 24 = .ok (.getfield 46, 3) := by decide +kernel
theorem dX8_reference_27 : decode cX8_reference 27 = .ok (.iload 4, 2) := by decide +kernel
theorem dX8_reference_29 : decode cX8_reference 29 = .ok (.invokevirtual 112, 3) := by decide +kernel
theorem dX8_reference_32 : decode cX8_reference 32 = .ok (.aload_n 0, 1) := by decide +kernel
theorem dX8_reference_33 : decode cX8_reference 33 = .ok (.getfield 46, 3) := by decide +kernel
theorem dX8_reference_36 : decode cX8_reference 36 = .ok (.ldc 181, 2) := by decide +kernel
theorem dX8_reference_38 : decode cX8_reference 38 = .ok (.invokevirtual 85, 3) := by decide +kernel
theorem dX8_reference_41 : decode cX8_reference 41 = .ok (.aload_n 0, 1) := by decide +kernel
theorem dX8_reference_42 : decode cX8_reference 42 = .ok (.getfield 50, 3) := by decide +kernel
theorem dX8_reference_45 : decode cX8_reference 45 = .ok (.iconst 2, 1) := by decide +kernel
theorem dX8_reference_46 : decode cX8_reference 46 = .ok (.if_icmp .ne 16, 3) := by decide +kernel
theorem dX8_reference_49 : decode cX8_reference 49 = .ok (.aload_n 0, 1) := by decide +kernel
theorem dX8_reference_50 : decode cX8_reference 50 = .ok (.aload_n 0, 1) := by decide +kernel
theorem dX8_reference_51 : decode cX8_reference 51 = .ok (.getfield 9, 3) := by decide +kernel
theorem dX8_reference_54 : decode cX8_reference 54 = .ok (.iload_n 1, 1) := by decide +kernel
theorem dX8_reference_55 : decode cX8_reference 55 = .ok (.iaload, 1) := by decide +kernel
theorem dX8_reference_56 : decode cX8_reference 56 = .ok (.invokevirtual 123, 3) := by decide +kernel
theorem dX8_reference_59 : decode cX8_reference 59 = .ok (.goto 25, 3) := by decide +kernel
theorem dX8_reference_62 : decode cX8_reference 62 = .ok (.aload_n 0, 1) := by decide +kernel
theorem dX8_reference_63 : decode cX8_reference 63 = .ok (.getfield 50, 3) := by decide +kernel
theorem dX8_reference_66 : decode cX8_reference 66 = .ok (.ifCond .ne 13, 3) := by decide +kernel
theorem dX8_reference_69 : decode cX8_reference 69 = .ok (.aload_n 0, 1) := by decide +kernel
theorem dX8_reference_70 : decode cX8_reference 70 = .ok (.iload_n 1, 1) := by decide +kernel
theorem dX8_reference_71 : decode cX8_reference 71 = .ok (.iload_n 2, 1) := by decide +kernel
theorem dX8_reference_72 : decode cX8_reference 72 = .ok (.iload_n 3, 1) := by decide +kernel
theorem dX8_reference_73 : decode cX8_reference 73 = .ok (.invokevirtual 183, 3) := by decide +kernel
theorem dX8_reference_76 : decode cX8_reference 76 = .ok (.goto 8, 3) := by decide +kernel
theorem dX8_reference_79 : decode cX8_reference 79 = .ok (.aload_n 0, 1) := by decide +kernel
theorem dX8_reference_80 : decode cX8_reference 80 = .ok (.iload_n 1, 1) := by decide +kernel
theorem dX8_reference_81 : decode cX8_reference 81 = .ok (.invokevirtual 186, 3) := by decide +kernel
theorem dX8_reference_84 : decode cX8_reference 84 = .ok (.aload_n 0, 1) := by decide +kernel
theorem dX8_reference_85 : decode cX8_reference 85 = .ok (.getfield 46, 3) := by decide +kernel
theorem dX8_reference_88 : decode cX8_reference 88 = .ok (.ldc 189, 2) := by decide +kernel
theorem dX8_reference_90 : decode cX8_reference 90 = .ok (.invokevirtual 85, 3) := by decide +kernel
theorem dX8_reference_93 : decode cX8_reference 93 = .ok (.return_, 1) := by decide +kernel
theorem dX8_path_0 : decode cX8_path 0 = .ok (.aload_n 0, 1) := by decide +kernel
theorem dX8_path_1 : decode cX8_path 1 = .ok (.aload_n 0, 1) := by decide +kernel
theorem dX8_path_2 : decode cX8_path 2 = .ok (.getfield 27, 3) := by decide +kernel
theorem dX8_path_5 : decode cX8_path 5 = .ok (.iconst 0, 1) := by decide +kernel
theorem dX8_path_6 : decode cX8_path 6 = .ok (.iload_n 1, 1) := by decide +kernel
theorem dX8_path_7 : decode cX8_path 7 = .ok (.invokevirtual 191, 3) := by decide +kernel
theorem dX8_path_10 : decode cX8_path 10 = .ok (.istore_n 2, 1) := by decide +kernel
theorem dX8_path_11 : decode cX8_path 11 = .ok (.iload_n 2, 1) := by decide +kernel
theorem dX8_path_12 : decode cX8_path 12 = .ok (.iconst 1, 1) := by decide +kernel
theorem dX8_path_13 : decode cX8_path 13 = .ok (.isub, 1) := by decide +kernel
theorem dX8_path_14 : decode cX8_path 14 = .ok (.istore_n 3, 1) := by decide +kernel
theorem dX8_path_15 : decode cX8_path 15 = .ok (.iload_n 3, 1) := by decide +kernel
theorem dX8_path_16 : decode cX8_path 16 = .ok (.ifCond .lt 29, 3) := by decide +kernel
theorem dX8_path_19 : decode cX8_path 19 = .ok (.aload_n 0, 1) := by decide +kernel
theorem dX8_path_20 : decode cX8_path 20 = .ok (.getfield 46, 3) := by decide +kernel
theorem dX8_path_23 : decode cX8_path 23 = .ok (.bipush 47, 2) := by decide +kernel
theorem dX8_path_25 : decode cX8_path 25 = .ok (.invokevirtual 89, 3) := by decide +kernel
theorem dX8_path_28 : decode cX8_path 28 = .ok (.pop, 1) := by decide +kernel
theorem dX8_path_29 : decode cX8_path 29 = .ok (.aload_n 0, 1) := by decide +kernel
theorem dX8_path_30 : decode cX8_path 30 = .ok (.aload_n 0, 1) := by decide +kernel
theorem dX8_path_31 : decode cX8_path 31 = .ok (.getfield 27, 3) := by decide +kernel
theorem dX8_path_34 : decode cX8_path 34 = .ok (.iload_n 3, 1) := by decide +kernel
theorem dX8_path_35 : decode cX8_path 35 = .ok (.iaload, 1) := by decide +kernel
theorem dX8_path_36 : decode cX8_path 36 = .ok (.invokevirtual 195, 3) := by decide +kernel
theorem dX8_path_39 : decode cX8_path 39 = .ok (.iinc 3 (-1), 3) := by decide +kernel
theorem dX8_path_42 : decode cX8_path 42 = .ok (.goto (-27), 3) := by decide +kernel
theorem dX8_path_45 : decode cX8_path 45 = .ok (.return_, 1) := by decide +kernel
theorem dX8_way_0 : decode cX8_way 0 = .ok (.aload_n 0, 1) := by decide +kernel
theorem dX8_way_1 : decode cX8_way 1 = .ok (.aload_n 0, 1) := by decide +kernel
theorem dX8_way_2 : decode cX8_way 2 = .ok (.getfield 24, 3) := by decide +kernel
theorem dX8_way_5 : decode cX8_way 5 = .ok (.aload_n 0, 1) := by decide +kernel
theorem dX8_way_6 : decode cX8_way 6 = .ok (.iload_n 2, 1) := by decide +kernel
theorem dX8_way_7 : decode cX8_way 7 = .ok (.iload_n 3, 1) := by decide +kernel
theorem dX8_way_8 : decode cX8_way 8 = .ok (.invokevirtual 198, 3) := by decide +kernel
theorem dX8_way_11 : decode cX8_way 11 = .ok (.iload_n 2, 1) := by decide +kernel
theorem dX8_way_12 : decode cX8_way 12 = .ok (.invokevirtual 191, 3) := by decide +kernel
theorem dX8_way_15 : decode cX8_way 15 = .ok (.istore 4, 2) := by decide +kernel
theorem dX8_way_17 : decode cX8_way 17 = .ok (.aload_n 0, 1) := by decide +kernel
theorem dX8_way_18 : decode cX8_way 18 = .ok (.aload_n 0, 1) := by decide +kernel
theorem dX8_way_19 : decode cX8_way 19 = .ok (.getfield 27, 3) := by decide +kernel
theorem dX8_way_22 : decode cX8_way 22 = .ok (.iconst 0, 1) := by decide +kernel
theorem dX8_way_23 : decode cX8_way 23 = .ok (.iload_n 1, 1) := by decide +kernel
theorem dX8_way_24 : decode cX8_way 24 = .ok (.invokevirtual 191, 3) := by decide +kernel
theorem dX8_way_27 : decode cX8_way 27 = .ok (.istore 5, 2) := by decide +kernel
theorem dX8_way_29 : decode cX8_way 29 = .ok (.iconst 0, 1) := by decide +kernel
theorem dX8_way_30 : decode cX8_way 30 = .ok (.istore 6, 2) := by decide +kernel
theorem dX8_way_32 : decode cX8_way 32 = .ok (.iload 6, 2) := by decide +kernel
theorem dX8_way_34 : decode cX8_way 34 = .ok (.iload 4, 2) := by decide +kernel
theorem dX8_way_36 : decode cX8_way 36 = .ok (.if_icmp .ge 43, 3) := by decide +kernel
theorem dX8_way_39 : decode cX8_way 39 = .ok (.iload 6, 2) := by decide +kernel
theorem dX8_way_41 : decode cX8_way 41 = .ok (.iload 5, 2) := by decide +kernel
theorem dX8_way_43 : decode cX8_way 43 = .ok (.if_icmp .ge 36, 3) := by decide +kernel
theorem dX8_way_46 : decode cX8_way 46 = .ok (.aload_n 0, 1) := by decide +kernel
theorem dX8_way_47 : decode cX8_way 47 = .ok (.getfield 24, 3) := by decide +kernel
theorem dX8_way_50 : decode cX8_way 50 = .ok (.iload 4, 2) := by decide +kernel
theorem dX8_way_52 : decode cX8_way 52 = .ok (.iconst 1, 1) := by decide +kernel
theorem dX8_way_53 : decode cX8_way 53 = .ok (.isub, 1) := by decide +kernel
theorem dX8_way_54 : decode cX8_way 54 = .ok (.iload 6, 2) := by decide +kernel
theorem dX8_way_56 : decode cX8_way 56 = .ok (.isub, 1) := by decide +kernel
theorem dX8_way_57 : decode cX8_way 57 = .ok (.iaload, 1) := by decide +kernel
theorem dX8_way_58 : decode cX8_way 58 = .ok (.aload_n 0, 1) := by decide +kernel
theorem dX8_way_59 : decode cX8_way 59 = .ok (.getfield 27, 3) := by decide +kernel
theorem dX8_way_62 : decode cX8_way 62 = .ok (.iload 5, 2) := by decide +kernel
theorem dX8_way_64 : decode cX8_way 64 = .ok (.iconst 1, 1) := by decide +kernel
theorem dX8_way_65 : decode cX8_way 65 = .ok (.isub, 1) := by decide +kernel
theorem dX8_way_66 : decode cX8_way 66 = .ok (.iload 6, 2) := by decide +kernel
theorem dX8_way_68 : decode cX8_way 68 = .ok (.isub, 1) := by decide +kernel
theorem dX8_way_69 : decode cX8_way 69 = .ok (.iaload, 1) := by decide +kernel
theorem dX8_way_70 : decode cX8_way 70 = .ok (.if_icmp .ne 9, 3) := by decide +kernel
theorem dX8_way_73 : decode cX8_way 73 = .ok (.iinc 6 1, 3) := by decide +kernel
theorem dX8_way_76 : decode cX8_way 76 = .ok (.goto (-44), 3) := by decide +kernel
theorem dX8_way_79 : decode cX8_way 79 = .ok (.iconst 0, 1) := by decide +kernel
theorem dX8_way_80 : decode cX8_way 80 = .ok (.istore 7, 2) := by decide +kernel
theorem dX8_way_82 : decode cX8_way 82 = .ok (.iload 7, 2) := by decide +kernel
theorem dX8_way_84 : decode cX8_way 84 = .ok (.iload 4, 2) := by decide +kernel
theorem dX8_way_86 : decode cX8_way 86 = .ok (.iload 6, 2) := by decide +kernel
theorem dX8_way_88 : decode cX8_way 88 = .ok (.isub, 1) := by decide +kernel
theorem dX8_way_89 : decode cX8_way 89 = .ok (.if_icmp .ge 28, 3) := by decide +kernel
theorem dX8_way_92 : decode cX8_way 92 = .ok (.aload_n 0, 1) := by decide +kernel
theorem dX8_way_93 : decode cX8_way 93 = .ok (.getfield 46, 3) := by decide +kernel
theorem dX8_way_96 : decode cX8_way 96 = .ok (.iload 7, 2) := by decide +kernel
theorem dX8_way_98 : decode cX8_way 98 = .ok (.ifCond .ne 8, 3) := by decide +kernel
theorem dX8_way_101 : decode cX8_way 101 = .ok (.ldc 201, 2) := by decide +kernel
theorem dX8_way_103 : decode cX8_way 103 = .ok (.goto 5, 3) := by decide +kernel
theorem dX8_way_106 : decode cX8_way 106 = .ok (.ldc 203, 2) := by decide +kernel
theorem dX8_way_108 : decode cX8_way 108 = .ok (.invokevirtual 85, 3) := by decide +kernel
theorem dX8_way_111 : decode cX8_way 111 = .ok (.iinc 7 1, 3) := by decide +kernel
theorem dX8_way_114 : decode cX8_way 114 = .ok (.goto (-32), 3) := by decide +kernel
theorem dX8_way_117 : decode cX8_way 117 = .ok (.iload 5, 2) := by decide +kernel
theorem dX8_way_119 : decode cX8_way 119 = .ok (.iload 6, 2) := by decide +kernel
theorem dX8_way_121 : decode cX8_way 121 = .ok (.isub, 1) := by decide +kernel
theorem dX8_way_122 : decode cX8_way 122 = .ok (.iconst 1, 1) := by decide +kernel
theorem dX8_way_123 : decode cX8_way 123 = .ok (.isub, 1) := by decide +kernel
theorem dX8_way_124 : decode cX8_way 124 = .ok (.istore 7, 2) := by decide +kernel
theorem dX8_way_126 : decode cX8_way 126 = .ok (.iload 7, 2) := by decide +kernel
theorem dX8_way_128 : decode cX8_way 128 = .ok (.ifCond .lt 30, 3) := by decide +kernel
theorem dX8_way_131 : decode cX8_way 131 = .ok (.aload_n 0, 1) := by decide +kernel
theorem dX8_way_132 : decode cX8_way 132 = .ok (.getfield 46, 3) := by decide +kernel
theorem dX8_way_135 : decode cX8_way 135 = .ok (.bipush 47, 2) := by decide +kernel
theorem dX8_way_137 : decode cX8_way 137 = .ok (.invokevirtual 89, 3) := by decide +kernel
theorem dX8_way_140 : decode cX8_way 140 = .ok (.pop, 1) := by decide +kernel
theorem dX8_way_141 : decode cX8_way 141 = .ok (.aload_n 0, 1) := by decide +kernel
theorem dX8_way_142 : decode cX8_way 142 = .ok (.aload_n 0, 1) := by decide +kernel
theorem dX8_way_143 : decode cX8_way 143 = .ok (.getfield 27, 3) := by decide +kernel
theorem dX8_way_146 : decode cX8_way 146 = .ok (.iload 7, 2) := by decide +kernel
theorem dX8_way_148 : decode cX8_way 148 = .ok (.iaload, 1) := by decide +kernel
theorem dX8_way_149 : decode cX8_way 149 = .ok (.invokevirtual 195, 3) := by decide +kernel
theorem dX8_way_152 : decode cX8_way 152 = .ok (.iinc 7 (-1), 3) := by decide +kernel
theorem dX8_way_155 : decode cX8_way 155 = .ok (.goto (-29), 3) := by decide +kernel
theorem dX8_way_158 : decode cX8_way 158 = .ok (.return_, 1) := by decide +kernel
theorem dX8_ancestryOfItself_0 : decode cX8_ancestryOfItself 0 = .ok (.aload_n 0, 1) := by decide +kernel
theorem dX8_ancestryOfItself_1 : decode cX8_ancestryOfItself 1 = .ok (.getfield 24, 3) := by decide +kernel
theorem dX8_ancestryOfItself_4 : decode cX8_ancestryOfItself 4 = .ok (.iconst 0, 1) := by decide +kernel
theorem dX8_ancestryOfItself_5 : decode cX8_ancestryOfItself 5 = .ok (.iconst (-1), 1) := by decide +kernel
theorem dX8_ancestryOfItself_6 : decode cX8_ancestryOfItself 6 = .ok (.iastore, 1) := by decide +kernel
theorem dX8_ancestryOfItself_7 : decode cX8_ancestryOfItself 7 = .ok (.aload_n 0, 1) := by decide +kernel
theorem dX8_ancestryOfItself_8 : decode cX8_ancestryOfItself 8 = .ok (.getfield 38, 3) := by decide +kernel
theorem dX8_ancestryOfItself_11 : decode cX8_ancestryOfItself 11 = .ok (.aload_n 0, 1) := by decide +kernel
theorem dX8_ancestryOfItself_12 : decode cX8_ancestryOfItself 12 = .ok (.getfield 42, 3) := by decide +kernel
theorem dX8_ancestryOfItself_15 : decode cX8_ancestryOfItself 15 = .ok (.iload_n 1, 1) := by decide +kernel
theorem dX8_ancestryOfItself_16 : decode cX8_ancestryOfItself 16 = .ok (.invokevirtual 99, 3) := by decide +kernel
theorem dX8_ancestryOfItself_19 : decode cX8_ancestryOfItself 19 = .ok (.iload_n 2, 1) := by decide +kernel
theorem dX8_ancestryOfItself_20 : decode cX8_ancestryOfItself 20 = .ok (.invokevirtual 205, 3) := by decide +kernel
theorem dX8_ancestryOfItself_23 : decode cX8_ancestryOfItself 23 = .ok (.ifCond .ne 5, 3) := by decide +kernel
theorem dX8_ancestryOfItself_26 : decode cX8_ancestryOfItself 26 = .ok (.iconst 1, 1) := by decide +kernel
theorem dX8_ancestryOfItself_27 : decode cX8_ancestryOfItself 27 = .ok (.ireturn, 1) := by decide +kernel
theorem dX8_ancestryOfItself_28 : decode cX8_ancestryOfItself 28 = .ok (.aload_n 0, 1) := by decide +kernel
theorem dX8_ancestryOfItself_29 : decode cX8_ancestryOfItself 29 = .ok (.getfield 24, 3) := by decide +kernel
theorem dX8_ancestryOfItself_32 : decode cX8_ancestryOfItself 32 = .ok (.iconst 1, 1) := by decide +kernel
theorem dX8_ancestryOfItself_33 : decode cX8_ancestryOfItself 33 = .ok (.iload_n 1, 1) := by decide +kernel
theorem dX8_ancestryOfItself_34 : decode cX8_ancestryOfItself 34 = .ok (.iload_n 2, 1) := by decide +kernel
theorem dX8_ancestryOfItself_35 : decode cX8_ancestryOfItself 35 = .ok (.invokestatic 208, 3) := by decide +kernel
theorem dX8_ancestryOfItself_38 : decode cX8_ancestryOfItself 38 = .ok (.iastore, 1) := by decide +kernel
theorem dX8_ancestryOfItself_39 : decode cX8_ancestryOfItself 39 = .ok (.iconst 2, 1) := by decide +kernel
theorem dX8_ancestryOfItself_40 : decode cX8_ancestryOfItself 40 = .ok (.ireturn, 1) := by decide +kernel
theorem dX8_ancestry_0 : decode cX8_ancestry 0 = .ok (.iload_n 2, 1) := by decide +kernel
theorem dX8_ancestry_1 : decode cX8_ancestry 1 = .ok (.istore 4, 2) := by decide +kernel
theorem dX8_ancestry_3 : decode cX8_ancestry 3 = .ok (.iload_n 3, 1) := by decide +kernel
theorem dX8_ancestry_4 : decode cX8_ancestry 4 = .ok (.istore 5, 2) := by decide +kernel
theorem dX8_ancestry_6 : decode cX8_ancestry 6 = .ok (.iconst 0, 1) := by decide +kernel
theorem dX8_ancestry_7 : decode cX8_ancestry 7 = .ok (.istore 6, 2) := by decide +kernel
theorem dX8_ancestry_9 : decode cX8_ancestry 9 = .ok (.iload 6, 2) := by decide +kernel
theorem dX8_ancestry_11 : decode cX8_ancestry 11 = .ok (.bipush 30, 2) := by decide +kernel
theorem dX8_ancestry_13 : decode cX8_ancestry 13 = .ok (.if_icmp .ge 97, 3) := by decide +kernel
theorem dX8_ancestry_16 : decode cX8_ancestry 16 = .ok (.aload_n 0, 1) := by decide +kernel
theorem dX8_ancestry_17 : decode cX8_ancestry 17 = .ok (.getfield 42, 3) := by decide +kernel
theorem dX8_ancestry_20 : decode cX8_ancestry 20 = .ok (.iload 5, 2) := by decide +kernel
theorem dX8_ancestry_22 : decode cX8_ancestry 22 = .ok (.invokevirtual 62, 3) := by decide +kernel
theorem dX8_ancestry_25 : decode cX8_ancestry 25 = .ok (.ifCond .eq 85, 3) := by decide +kernel
theorem dX8_ancestry_28 : decode cX8_ancestry 28 = .ok (.iload 4, 2) := by decide +kernel
theorem dX8_ancestry_30 : decode cX8_ancestry 30 = .ok (.iconst 2, 1) := by decide +kernel
theorem dX8_ancestry_31 : decode cX8_ancestry 31 = .ok (.iadd, 1) := by decide +kernel
theorem dX8_ancestry_32 : decode cX8_ancestry 32 = .ok (.aload_n 1, 1) := by decide +kernel
theorem dX8_ancestry_33 : decode cX8_ancestry 33 = .ok (.arraylength, 1) := by decide +kernel
theorem dX8_ancestry_34 : decode cX8_ancestry 34 = .ok (.if_icmp .gt 76, 3) := by decide +kernel
theorem dX8_ancestry_37 : decode cX8_ancestry 37 = .ok (.aload_n 1, 1) := by decide +kernel
theorem dX8_ancestry_38 : decode cX8_ancestry 38 = .ok (.iload 4, 2) := by decide +kernel
theorem dX8_ancestry_40 : decode cX8_ancestry 40 = .ok (.iload 5, 2) := by decide +kernel
theorem dX8_ancestry_42 : decode cX8_ancestry 42 = .ok (.iastore, 1) := by decide +kernel
theorem dX8_ancestry_43 : decode cX8_ancestry 43 = .ok (.iinc 4 1, 3) := by decide +kernel
theorem dX8_ancestry_46 : decode cX8_ancestry 46 = .ok (.aload_n 0, 1) := by decide +kernel
theorem dX8_ancestry_47 : decode cX8_ancestry 47 = .ok (.getfield 15, 3) := by decide +kernel
theorem dX8_ancestry_50 : decode cX8_ancestry 50 = .ok (.iload 5, 2) := by decide +kernel
theorem dX8_ancestry_52 : decode cX8_ancestry 52 = .ok (.iaload, 1) := by decide +kernel
theorem dX8_ancestry_53 : decode cX8_ancestry 53 = .ok (.istore 7, 2) := by decide +kernel
theorem dX8_ancestry_55 : decode cX8_ancestry 55 = .ok (.aload_n 0, 1) := by decide +kernel
theorem dX8_ancestry_56 : decode cX8_ancestry 56 = .ok (.getfield 38, 3) := by decide +kernel
theorem dX8_ancestry_59 : decode cX8_ancestry 59 = .ok (.aload_n 0, 1) := by decide +kernel
theorem dX8_ancestry_60 : decode cX8_ancestry 60 = .ok (.getfield 42, 3) := by decide +kernel
theorem dX8_ancestry_63 : decode cX8_ancestry 63 = .ok (.iload 7, 2) := by decide +kernel
theorem dX8_ancestry_65 : decode cX8_ancestry 65 = .ok (.invokevirtual 99, 3) := by decide +kernel
theorem dX8_ancestry_68 : decode cX8_ancestry 68 = .ok (.aload_n 0, 1) := by decide +kernel
theorem dX8_ancestry_69 : decode cX8_ancestry 69 = .ok (.getfield 18, 3) := by decide +kernel
theorem dX8_ancestry_72 : decode cX8_ancestry 72 = .ok (.iload 5, 2) := by decide +kernel
theorem dX8_ancestry_74 : decode cX8_ancestry 74 = .ok (.iaload, 1) := by decide +kernel
theorem dX8_ancestry_75 : decode cX8_ancestry 75 = .ok (.invokevirtual 205, 3) := by decide +kernel
theorem dX8_ancestry_78 : decode cX8_ancestry 78 = .ok (.ifCond .eq 22, 3) := by decide +kernel
theorem dX8_ancestry_81 : decode cX8_ancestry 81 = .ok (.aload_n 1, 1) := by decide +kernel
theorem dX8_ancestry_82 : decode cX8_ancestry 82 = .ok (.iload 4, 2) := by decide +kernel
theorem dX8_ancestry_84 : decode cX8_ancestry 84 = .ok (.iload 7, 2) := by decide +kernel
theorem dX8_ancestry_86 : decode cX8_ancestry 86 = .ok (.aload_n 0, 1) := by decide +kernel
theorem dX8_ancestry_87 : decode cX8_ancestry 87 = .ok (.getfield 18, 3) := by decide +kernel
theorem dX8_ancestry_90 : decode cX8_ancestry 90 = .ok (.iload 5, 2) := by decide +kernel
theorem dX8_ancestry_92 : decode cX8_ancestry 92 = .ok (.iaload, 1) := by decide +kernel
theorem dX8_ancestry_93 : decode cX8_ancestry 93 = .ok (.invokestatic 208, 3) := by decide +kernel
theorem dX8_ancestry_96 : decode cX8_ancestry 96 = .ok (.iastore, 1) := by decide +kernel
theorem dX8_ancestry_97 : decode cX8_ancestry 97 = .ok (.iinc 4 1, 3) := by decide +kernel
theorem dX8_ancestry_100 : decode cX8_ancestry 100 = .ok (.iload 7, 2) := by decide +kernel
theorem dX8_ancestry_102 : decode cX8_ancestry 102 = .ok (.istore 5, 2) := by decide +kernel
theorem dX8_ancestry_104 : decode cX8_ancestry 104 = .ok (.iinc 6 1, 3) := by decide +kernel
theorem dX8_ancestry_107 : decode cX8_ancestry 107 = .ok (.goto (-98), 3) := by decide +kernel
theorem dX8_ancestry_110 : decode cX8_ancestry 110 = .ok (.iload 4, 2) := by decide +kernel
theorem dX8_ancestry_112 : decode cX8_ancestry 112 = .ok (.ireturn, 1) := by decide +kernel
theorem dX8_listElement_0 : decode cX8_listElement 0 = .ok (.bipush 30, 2) := by decide +kernel
theorem dX8_listElement_2 : decode cX8_listElement 2 = .ok (.iload_n 0, 1) := by decide +kernel
theorem dX8_listElement_3 : decode cX8_listElement 3 = .ok (.iconst 4, 1) := by decide +kernel
theorem dX8_listElement_4 : decode cX8_listElement 4 = .ok (.imul, 1) := by decide +kernel
theorem dX8_listElement_5 : decode cX8_listElement 5 = .ok (.iadd, 1) := by decide +kernel
theorem dX8_listElement_6 : decode cX8_listElement 6 = .ok (.iload_n 1, 1) := by decide +kernel
theorem dX8_listElement_7 : decode cX8_listElement 7 = .ok (.iadd, 1) := by decide +kernel
theorem dX8_listElement_8 : decode cX8_listElement 8 = .ok (.ireturn, 1) := by decide +kernel
theorem dX8_step_0 : decode cX8_step 0 = .ok (.aload_n 0, 1) := by decide +kernel
theorem dX8_step_1 : decode cX8_step 1 = .ok (.getfield 42, 3) := by decide +kernel
theorem dX8_step_4 : decode cX8_step 4 = .ok (.iload_n 1, 1) := by decide +kernel
theorem dX8_step_5 : decode cX8_step 5 = .ok (.invokevirtual 62, 3) := by decide +kernel
theorem dX8_step_8 : decode cX8_step 8 = .ok (.ifCond .ne 40, 3) := by decide +kernel
theorem dX8_step_11 : decode cX8_step 11 = .ok (.iconst 0, 1) := by decide +kernel
theorem dX8_step_12 : decode cX8_step 12 = .ok (.iload_n 1, 1) := by decide +kernel
theorem dX8_step_13 : decode cX8_step 13 = .ok (.bipush 30, 2) := by decide +kernel
theorem dX8_step_15 : decode cX8_step 15 = .ok (.isub, 1) := by decide +kernel
theorem dX8_step_16 : decode cX8_step 16 = .ok (.invokestatic 211, 3) := by decide +kernel
theorem dX8_step_19 : decode cX8_step 19 = .ok (.istore_n 2, 1) := by decide +kernel
theorem dX8_step_20 : decode cX8_step 20 = .ok (.aload_n 0, 1) := by decide +kernel
theorem dX8_step_21 : decode cX8_step 21 = .ok (.getfield 38, 3) := by decide +kernel
theorem dX8_step_24 : decode cX8_step 24 = .ok (.aload_n 0, 1) := by decide +kernel
theorem dX8_step_25 : decode cX8_step 25 = .ok (.getfield 46, 3) := by decide +kernel
theorem dX8_step_28 : decode cX8_step 28 = .ok (.aload_n 0, 1) := by decide +kernel
theorem dX8_step_29 : decode cX8_step 29 = .ok (.getfield 42, 3) := by decide +kernel
theorem dX8_step_32 : decode cX8_step 32 = .ok (.iload_n 2, 1) := by decide +kernel
theorem dX8_step_33 : decode cX8_step 33 = .ok (.iconst 4, 1) := by decide +kernel
theorem dX8_step_34 : decode cX8_step 34 = .ok (.idiv, 1) := by decide +kernel
theorem dX8_step_35 : decode cX8_step 35 = .ok (.invokevirtual 99, 3) := by decide +kernel
theorem dX8_step_38 : decode cX8_step 38 = .ok (.iload_n 2, 1) := by decide +kernel
theorem dX8_step_39 : decode cX8_step 39 = .ok (.iconst 4, 1) := by decide +kernel
theorem dX8_step_40 : decode cX8_step 40 = .ok (.irem, 1) := by decide +kernel
theorem dX8_step_41 : decode cX8_step 41 = .ok (.invokestatic 109, 3) := by decide +kernel
theorem dX8_step_44 : decode cX8_step 44 = .ok (.invokevirtual 112, 3) := by decide +kernel
theorem dX8_step_47 : decode cX8_step 47 = .ok (.return_, 1) := by decide +kernel
theorem dX8_step_48 : decode cX8_step 48 = .ok (.aload_n 0, 1) := by decide +kernel
theorem dX8_step_49 : decode cX8_step 49 = .ok (.getfield 38, 3) := by decide +kernel
theorem dX8_step_52 : decode cX8_step 52 = .ok (.aload_n 0, 1) := by decide +kernel
theorem dX8_step_53 : decode cX8_step 53 = .ok (.getfield 46, 3) := by decide +kernel
theorem dX8_step_56 : decode cX8_step 56 = .ok (.aload_n 0, 1) := by decide +kernel
theorem dX8_step_57 : decode cX8_step 57 = .ok (.iload_n 1, 1) := by decide +kernel
theorem dX8_step_58 : decode cX8_step 58 = .ok (.aload_n 0, 1) := by decide +kernel
theorem dX8_step_59 : decode cX8_step 59 = .ok (.getfield 15, 3) := by decide +kernel
theorem dX8_step_62 : decode cX8_step 62 = .ok (.iload_n 1, 1) := by decide +kernel
theorem dX8_step_63 : decode cX8_step 63 = .ok (.iaload, 1) := by decide +kernel
theorem dX8_step_64 : decode cX8_step 64 = .ok (.aload_n 0, 1) := by decide +kernel
theorem dX8_step_65 : decode cX8_step 65 = .ok (.getfield 18, 3) := by decide +kernel
theorem dX8_step_68 : decode cX8_step 68 = .ok (.iload_n 1, 1) := by decide +kernel
theorem dX8_step_69 : decode cX8_step 69 = .ok (.iaload, 1) := by decide +kernel
theorem dX8_step_70 : decode cX8_step 70 = .ok (.invokevirtual 72, 3) := by decide +kernel
theorem dX8_step_73 : decode cX8_step 73 = .ok (.invokevirtual 112, 3) := by decide +kernel
theorem dX8_step_76 : decode cX8_step 76 = .ok (.aload_n 0, 1) := by decide +kernel
theorem dX8_step_77 : decode cX8_step 77 = .ok (.iload_n 1, 1) := by decide +kernel
theorem dX8_step_78 : decode cX8_step 78 = .ok (.invokevirtual 214, 3) := by decide +kernel
theorem dX8_step_81 : decode cX8_step 81 = .ok (.istore_n 2, 1) := by decide +kernel
theorem dX8_step_82 : decode cX8_step 82 = .ok (.iload_n 2, 1) := by decide +kernel
theorem dX8_step_83 : decode cX8_step 83 = .ok (.iconst 1, 1) := by decide +kernel
theorem dX8_step_84 : decode cX8_step 84 = .ok (.if_icmp .le 28, 3) := by decide +kernel
theorem dX8_step_87 : decode cX8_step 87 = .ok (.aload_n 0, 1) := by decide +kernel
theorem dX8_step_88 : decode cX8_step 88 = .ok (.getfield 46, 3) := by decide +kernel
theorem dX8_step_91 : decode cX8_step 91 = .ok (.bipush 91, 2) := by decide +kernel
theorem dX8_step_93 : decode cX8_step 93 = .ok (.invokevirtual 89, 3) := by decide +kernel
theorem dX8_step_96 : decode cX8_step 96 = .ok (.pop, 1) := by decide +kernel
theorem dX8_step_97 : decode cX8_step 97 = .ok (.aload_n 0, 1) := by decide +kernel
theorem dX8_step_98 : decode cX8_step 98 = .ok (.iload_n 2, 1) := by decide +kernel
theorem dX8_step_99 : decode cX8_step 99 = .ok (.invokevirtual 123, 3) := by decide +kernel
theorem dX8_step_102 : decode cX8_step 102 = .ok (.aload_n 0, 1) := by decide +kernel
theorem dX8_step_103 : decode cX8_step 103 = .ok (.getfield 46, 3) := by decide +kernel
theorem dX8_step_106 : decode cX8_step 106 = .ok (.bipush 93, 2) := by decide +kernel
theorem dX8_step_108 : decode cX8_step 108 = .ok (.invokevirtual 89, 3) := by decide +kernel
theorem dX8_step_111 : decode cX8_step 111 = .ok (.pop, 1) := by decide +kernel
theorem dX8_step_112 : decode cX8_step 112 = .ok (.return_, 1) := by decide +kernel
theorem dX8_rankAmongItems_0 : decode cX8_rankAmongItems 0 = .ok (.aload_n 0, 1) := by decide +kernel
theorem dX8_rankAmongItems_1 : decode cX8_rankAmongItems 1 = .ok (.getfield 15, 3) := by decide +kernel
theorem dX8_rankAmongItems_4 : decode cX8_rankAmongItems 4 = .ok (.iload_n 1, 1) := by decide +kernel
theorem dX8_rankAmongItems_5 : decode cX8_rankAmongItems 5 = .ok (.iaload, 1) := by decide +kernel
theorem dX8_rankAmongItems_6 : decode cX8_rankAmongItems 6 = .ok (.istore_n 2, 1) := by decide +kernel
theorem dX8_rankAmongItems_7 : decode cX8_rankAmongItems 7 = .ok (.aload_n 0, 1) := by decide +kernel
theorem dX8_rankAmongItems_8 : decode cX8_rankAmongItems 8 = .ok (.getfield 38, 3) := by decide +kernel
theorem dX8_rankAmongItems_11 : decode cX8_rankAmongItems 11 = .ok (.aload_n 0, 1) := by decide +kernel
theorem dX8_rankAmongItems_12 : decode cX8_rankAmongItems 12 = .ok (.getfield 42, 3) := by decide +kernel
theorem dX8_rankAmongItems_15 : decode cX8_rankAmongItems 15 = .ok (.iload_n 2, 1) := by decide +kernel
theorem dX8_rankAmongItems_16 : decode cX8_rankAmongItems 16 = .ok (.invokevirtual 99, 3) := by decide +kernel
theorem dX8_rankAmongItems_19 : decode cX8_rankAmongItems 19 = .ok (.aload_n 0, 1) := by decide +kernel
theorem dX8_rankAmongItems_20 : decode cX8_rankAmongItems 20 = .ok (.getfield 18, 3) := by decide +kernel
theorem dX8_rankAmongItems_23 : decode cX8_rankAmongItems 23 = .ok (.iload_n 1, 1) := by decide +kernel
theorem dX8_rankAmongItems_24 : decode cX8_rankAmongItems 24 = .ok (.iaload, 1) := by decide +kernel
theorem dX8_rankAmongItems_25 : decode cX8_rankAmongItems 25 = .ok (.invokevirtual 103, 3) := by decide +kernel
theorem dX8_rankAmongItems_28 : decode cX8_rankAmongItems 28 = .ok (.iconst 4, 1) := by decide +kernel
theorem dX8_rankAmongItems_29 : decode cX8_rankAmongItems 29 = .ok (.if_icmp .eq 5, 3) := by decide +kernel
theorem dX8_rankAmongItems_32 : decode cX8_rankAmongItems 32 = .ok (.iconst 0, 1) := by decide +kernel
theorem dX8_rankAmongItems_33 : decode cX8_rankAmongItems 33 = .ok (.ireturn, 1) := by decide +kernel
theorem dX8_rankAmongItems_34 : decode cX8_rankAmongItems 34 = .ok (.iconst 0, 1) := by decide +kernel
theorem dX8_rankAmongItems_35 : decode cX8_rankAmongItems 35 = .ok (.istore_n 3, 1) := by decide +kernel
theorem dX8_rankAmongItems_36 : decode cX8_rankAmongItems 36 = .ok (.iconst 0, 1) := by decide +kernel
theorem dX8_rankAmongItems_37 : decode cX8_rankAmongItems 37 = .ok (.istore 4, 2) := by decide +kernel
theorem dX8_rankAmongItems_39 : decode cX8_rankAmongItems 39 = .ok (.iload 4, 2) := by decide +kernel
theorem dX8_rankAmongItems_41 : decode cX8_rankAmongItems 41 = .ok (.aload_n 0, 1) := by decide +kernel
theorem dX8_rankAmongItems_42 : decode cX8_rankAmongItems 42 = .ok (.getfield 21, 3) := by decide +kernel
theorem dX8_rankAmongItems_45 : decode cX8_rankAmongItems 45 = .ok (.iload_n 1, 1) := by decide +kernel
theorem dX8_rankAmongItems_46 : decode cX8_rankAmongItems 46 = .ok (.iaload, 1) := by decide +kernel
theorem dX8_rankAmongItems_47 : decode cX8_rankAmongItems 47 = .ok (.if_icmp .gt 46, 3) := by decide +kernel
theorem dX8_rankAmongItems_50 : decode cX8_rankAmongItems 50 = .ok (.aload_n 0, 1) := by decide +kernel
theorem dX8_rankAmongItems_51 : decode cX8_rankAmongItems 51 = .ok (.getfield 42, 3) := by decide +kernel
theorem dX8_rankAmongItems_54 : decode cX8_rankAmongItems 54 = .ok (.aload_n 0, 1) := by decide +kernel
theorem dX8_rankAmongItems_55 : decode cX8_rankAmongItems 55 = .ok (.getfield 42, 3) := by decide +kernel
theorem dX8_rankAmongItems_58 : decode cX8_rankAmongItems 58 = .ok (.iload_n 2, 1) := by decide +kernel
theorem dX8_rankAmongItems_59 : decode cX8_rankAmongItems 59 = .ok (.aload_n 0, 1) := by decide +kernel
theorem dX8_rankAmongItems_60 : decode cX8_rankAmongItems 60 = .ok (.getfield 18, 3) := by decide +kernel
theorem dX8_rankAmongItems_63 : decode cX8_rankAmongItems 63 = .ok (.iload_n 1, 1) := by decide +kernel
theorem dX8_rankAmongItems_64 : decode cX8_rankAmongItems 64 = .ok (.iaload, 1) := by decide +kernel
theorem dX8_rankAmongItems_65 : decode cX8_rankAmongItems 65 = .ok (.iload 4, 2) := by decide +kernel
theorem dX8_rankAmongItems_67 : decode cX8_rankAmongItems 67 = .ok (.invokevirtual 158, 3) := by decide +kernel
theorem dX8_rankAmongItems_70 : decode cX8_rankAmongItems 70 = .ok (.invokevirtual 99, 3) := by decide +kernel
theorem dX8_rankAmongItems_73 : decode cX8_rankAmongItems 73 = .ok (.aload_n 0, 1) := by decide +kernel
theorem dX8_rankAmongItems_74 : decode cX8_rankAmongItems 74 = .ok (.getfield 42, 3) := by decide +kernel
theorem dX8_rankAmongItems_77 : decode cX8_rankAmongItems 77 = .ok (.iload_n 1, 1) := by decide +kernel
theorem dX8_rankAmongItems_78 : decode cX8_rankAmongItems 78 = .ok (.invokevirtual 99, 3) := by decide +kernel
theorem dX8_rankAmongItems_81 : decode cX8_rankAmongItems 81 = .ok (.if_icmp .ne 6, 3) := by decide +kernel
theorem dX8_rankAmongItems_84 : decode cX8_rankAmongItems 84 = .ok (.iinc 3 1, 3) := by decide +kernel
theorem dX8_rankAmongItems_87 : decode cX8_rankAmongItems 87 = .ok (.iinc 4 1, 3) := by decide +kernel
theorem dX8_rankAmongItems_90 : decode cX8_rankAmongItems 90 = .ok (.goto (-51), 3) := by decide +kernel
theorem dX8_rankAmongItems_93 : decode cX8_rankAmongItems 93 = .ok (.iload_n 3, 1) := by decide +kernel
theorem dX8_rankAmongItems_94 : decode cX8_rankAmongItems 94 = .ok (.ireturn, 1) := by decide +kernel
theorem dX9_init_0 : decode cX9_init 0 = .ok (.aload_n 0, 1) := by decide +kernel
theorem dX9_init_1 : decode cX9_init 1 = .ok (.invokespecial 3, 3) := by decide +kernel
theorem dX9_init_4 : decode cX9_init 4 = .ok (.aload_n 0, 1) := by decide +kernel
theorem dX9_init_5 : decode cX9_init 5 = .ok (.iconst 0, 1) := by decide +kernel
theorem dX9_init_6 : decode cX9_init 6 = .ok (.putfield 9, 3) := by decide +kernel
theorem dX9_init_9 : decode cX9_init 9 = .ok (.aload_n 0, 1) := by decide +kernel
theorem dX9_init_10 : decode cX9_init 10 = .ok (.iconst (-1), 1) := by decide +kernel
theorem dX9_init_11 : decode cX9_init 11 = .ok (.putfield 15, 3) := by decide +kernel
theorem dX9_init_14 : decode cX9_init 14 = .ok (.aload_n 0, 1) := by decide +kernel
theorem dX9_init_15 : decode cX9_init 15 = .ok (.iconst 0, 1) := by decide +kernel
theorem dX9_init_16 : decode cX9_init 16 = .ok (.putfield 18, 3) := by decide +kernel
theorem dX9_init_19 : decode cX9_init 19 = .ok (.aload_n 0, 1) := by decide +kernel
theorem dX9_init_20 : decode cX9_init 20 = .ok (.iconst (-1), 1) := by decide +kernel
theorem dX9_init_21 : decode cX9_init 21 = .ok (.putfield 21, 3) := by decide +kernel
theorem dX9_init_24 : decode cX9_init 24 = .ok (.aload_n 0, 1) := by decide +kernel
theorem dX9_init_25 : decode cX9_init 25 = .ok (.aload_n 1, 1) := by decide +kernel
theorem dX9_init_26 : decode cX9_init 26 = .ok (.putfield 24, 3) := by decide +kernel
theorem dX9_init_29 : decode cX9_init 29 = .ok (.aload_n 0, 1) := by decide +kernel
theorem dX9_init_30 : decode cX9_init 30 = .ok (.aload_n 2, 1) := by decide +kernel
theorem dX9_init_31 : decode cX9_init 31 = .ok (.putfield 28, 3) := by decide +kernel
theorem dX9_init_34 : decode cX9_init 34 = .ok (.aload_n 0, 1) := by decide +kernel
theorem dX9_init_35 : decode cX9_init 35 = .ok (.aload_n 2, 1) := by decide +kernel
theorem dX9_init_36 : decode cX9_init 36 = .ok (.invokevirtual 32, 3) := by decide +kernel
theorem dX9_init_39 : decode cX9_init 39 = .ok (.putfield 38, 3) := by decide +kernel
theorem dX9_init_42 : decode cX9_init 42 = .ok (.return_, 1) := by decide +kernel
theorem dX9_firstWrong_0 : decode cX9_firstWrong 0 = .ok (.aload_n 0, 1) := by decide +kernel
theorem dX9_firstWrong_1 : decode cX9_firstWrong 1 = .ok (.getfield 28, 3) := by decide +kernel
theorem dX9_firstWrong_4 : decode cX9_firstWrong 4 = .ok (.aload_n 0, 1) := by decide +kernel
theorem dX9_firstWrong_5 : decode cX9_firstWrong 5 = .ok (.getfield 24, 3) := by decide +kernel
theorem dX9_firstWrong_8 : decode cX9_firstWrong 8 = .ok (.invokevirtual 40, 3) := by decide +kernel
theorem dX9_firstWrong_11 : decode cX9_firstWrong 11 = .ok (.aload_n 0, 1) := by decide +kernel
theorem dX9_firstWrong_12 : decode cX9_firstWrong 12 = .ok (.invokevirtual 44, 3) := by decide +kernel
theorem dX9_firstWrong_15 : decode cX9_firstWrong 15 = .ok (.aload_n 0, 1) := by decide +kernel
theorem dX9_firstWrong_16 : decode cX9_firstWrong 16 = .ok (.getfield 24, 3) := by decide +kernel
theorem dX9_firstWrong_19 : decode cX9_firstWrong 19 = .ok (.aload_n 0, 1) := by decide +kernel
theorem dX9_firstWrong_20 : decode cX9_firstWrong 20 = .ok (.getfield 9, 3) := by decide +kernel
theorem dX9_firstWrong_23 : decode cX9_firstWrong 23 = .ok (.invokevirtual 47, 3) := by decide +kernel
theorem dX9_firstWrong_26 : decode cX9_firstWrong 26 = .ok (.bipush 60, 2) := by decide +kernel
theorem dX9_firstWrong_28 : decode cX9_firstWrong 28 = .ok (.if_icmp .eq 8, 3) := by decide +kernel
theorem dX9_firstWrong_31 : decode cX9_firstWrong 31 = .ok (.aload_n 0, 1) := by decide +kernel
theorem dX9_firstWrong_32 : decode cX9_firstWrong 32 = .ok (.getfield 9, 3) := by decide +kernel
theorem dX9_firstWrong_35 : decode cX9_firstWrong 35 = .ok (.ireturn, 1) := by decide +kernel
theorem dX9_firstWrong_36 : decode cX9_firstWrong 36 = .ok (.aload_n 0, 1) := by decide +kernel
theorem dX9_firstWrong_37 : decode cX9_firstWrong 37 = .ok (.invokevirtual 53, 3) := by decide +kernel
theorem dX9_firstWrong_40 : decode cX9_firstWrong 40 = .ok (.iconst 0, 1) := by decide +kernel
theorem dX9_firstWrong_41 : decode cX9_firstWrong 41 = .ok (.istore_n 1, 1) := by decide +kernel
theorem dX9_firstWrong_42 : decode cX9_firstWrong 42 = .ok (.iload_n 1, 1) := by decide +kernel
theorem dX9_firstWrong_43 : decode cX9_firstWrong 43 = .ok (.sipush 3000, 3) := by decide +kernel
theorem dX9_firstWrong_46 : decode cX9_firstWrong 46 = .ok (.if_icmp .ge 168, 3) := by decide +kernel
theorem dX9_firstWrong_49 : decode cX9_firstWrong 49 = .ok (.aload_n 0, 1) := by decide +kernel
theorem dX9_firstWrong_50 : decode cX9_firstWrong 50 = .ok (.getfield 21, 3) := by decide +kernel
theorem dX9_firstWrong_53 : decode cX9_firstWrong 53 = .ok (.iconst (-1), 1) := by decide +kernel
theorem dX9_firstWrong_54 : decode cX9_firstWrong 54 = .ok (.if_icmp .ne 160, 3) := by decide +kernel
theorem dX9_firstWrong_57 : decode cX9_firstWrong 57 = .ok (.aload_n 0, 1) := by decide +kernel
theorem dX9_firstWrong_58 : decode cX9_firstWrong 58 = .ok (.getfield 15, 3) := by decide +kernel
theorem dX9_firstWrong_61 : decode cX9_firstWrong 61 = .ok (.iconst (-1), 1) := by decide +kernel
theorem dX9_firstWrong_62 : decode cX9_firstWrong 62 = .ok (.if_icmp .eq 152, 3) := by decide +kernel
theorem dX9_firstWrong_65 : decode cX9_firstWrong 65 = .ok (.aload_n 0, 1) := by decide +kernel
theorem dX9_firstWrong_66 : decode cX9_firstWrong 66 = .ok (.getfield 24, 3) := by decide +kernel
theorem dX9_firstWrong_69 : decode cX9_firstWrong 69 = .ok (.aload_n 0, 1) := by decide +kernel
theorem dX9_firstWrong_70 : decode cX9_firstWrong 70 = .ok (.getfield 9, 3) := by decide +kernel
theorem dX9_firstWrong_73 : decode cX9_firstWrong 73 = .ok (.invokevirtual 47, 3) := by decide +kernel
theorem dX9_firstWrong_76 : decode cX9_firstWrong 76 = .ok (.iconst (-1), 1) := by decide +kernel
theorem dX9_firstWrong_77 : decode cX9_firstWrong 77 = .ok (.if_icmp .ne 14, 3) := by decide +kernel
theorem dX9_firstWrong_80 : decode cX9_firstWrong 80 = .ok (.aload_n 0, 1) := by decide +kernel
theorem dX9_firstWrong_81 : decode cX9_firstWrong 81 = .ok (.aload_n 0, 1) := by decide +kernel
theorem dX9_firstWrong_82 : decode cX9_firstWrong 82 = .ok (.getfield 9, 3) := by decide +kernel
theorem dX9_firstWrong_85 : decode cX9_firstWrong 85 = .ok (.putfield 21, 3) := by decide +kernel
theorem dX9_firstWrong_88 : decode cX9_firstWrong 88 = .ok (.goto 120, 3) := by decide +kernel
theorem dX9_firstWrong_91 : decode cX9_firstWrong 91 = .ok (.aload_n 0, 1) := by decide +kernel
theorem dX9_firstWrong_92 : decode cX9_firstWrong 92 = .ok (.getfield 24, 3) := by decide +kernel
theorem dX9_firstWrong_95 : decode cX9_firstWrong 95 = .ok (.aload_n 0, 1) := by decide +kernel
theorem dX9_firstWrong_96 : decode cX9_firstWrong 96 = .ok (.getfield 9, 3) := by decide +kernel
theorem dX9_firstWrong_99 : decode cX9_firstWrong 99 = .ok (.invokevirtual 47, 3) := by decide +kernel
theorem dX9_firstWrong_102 : decode cX9_firstWrong 102 = .ok (.bipush 60, 2) := by decide +kernel
theorem dX9_firstWrong_104 : decode cX9_firstWrong 104 = .ok (.if_icmp .eq 10, 3) := by decide +kernel
theorem dX9_firstWrong_107 : decode cX9_firstWrong 107 = .ok (.aload_n 0, 1) := by decide +kernel
theorem dX9_firstWrong_108 : decode cX9_firstWrong 108 = .ok (.invokevirtual 56, 3) := by decide +kernel
theorem dX9_firstWrong_111 : decode cX9_firstWrong 111 = .ok (.goto 97, 3) := by decide +kernel
theorem dX9_firstWrong_114 : decode cX9_firstWrong 114 = .ok (.aload_n 0, 1) := by decide +kernel
theorem dX9_firstWrong_115 : decode cX9_firstWrong 115 = .ok (.getfield 24, 3) := by decide +kernel
theorem dX9_firstWrong_118 : decode cX9_firstWrong 118 = .ok (.aload_n 0, 1) := by decide +kernel
theorem dX9_firstWrong_119 : decode cX9_firstWrong 119 = .ok (.getfield 9, 3) := by decide +kernel
theorem dX9_firstWrong_122 : decode cX9_firstWrong 122 = .ok (.iconst 1, 1) := by decide +kernel
theorem dX9_firstWrong_123 : decode cX9_firstWrong 123 = .ok (.iadd, 1) := by decide +kernel
theorem dX9_firstWrong_124 : decode cX9_firstWrong 124 = .ok (.invokevirtual 47, 3) := by decide +kernel
theorem dX9_firstWrong_127 : decode cX9_firstWrong 127 = .ok (.bipush 47, 2) := by decide +kernel
theorem dX9_firstWrong_129 : decode cX9_firstWrong 129 = .ok (.if_icmp .ne 10, 3) := by decide +kernel
theorem dX9_firstWrong_132 : decode cX9_firstWrong 132 = .ok (.aload_n 0, 1) := by decide +kernel
theorem dX9_firstWrong_133 : decode cX9_firstWrong 133 = .ok (.invokevirtual 59, 3) := by decide +kernel
theorem dX9_firstWrong_136 : decode cX9_firstWrong 136 = .ok (.goto 72, 3) := by decide +kernel
theorem dX9_firstWrong_139 : decode cX9_firstWrong 139 = .ok (.aload_n 0, 1) := by decide +kernel
theorem dX9_firstWrong_140 : decode cX9_firstWrong 140 = .ok (.ldc 62, 2) := by decide +kernel
theorem dX9_firstWrong_142 : decode cX9_firstWrong 142 = .ok (.invokevirtual 64, 3) := by decide +kernel
theorem dX9_firstWrong_145 : decode cX9_firstWrong 145 = .ok (.ifCond .eq 10, 3) := by decide +kernel
theorem dX9_firstWrong_148 : decode cX9_firstWrong 148 = .ok (.aload_n 0, 1) := by decide +kernel
theorem dX9_firstWrong_149 : decode cX9_firstWrong 149 = .ok (.invokevirtual 68, 3) := by decide +kernel
theorem dX9_firstWrong_152 : decode cX9_firstWrong 152 = .ok (.goto 56, 3) := by decide +kernel
theorem dX9_firstWrong_155 : decode cX9_firstWrong 155 = .ok (.aload_n 0, 1) := by decide +kernel
theorem dX9_firstWrong_156 : decode cX9_firstWrong 156 = .ok (.ldc 71, 2) := by decide +kernel
theorem dX9_firstWrong_158 : decode cX9_firstWrong 158 = .ok (.invokevirtual 64, 3) := by decide +kernel
theorem dX9_firstWrong_161 : decode cX9_firstWrong 161 = .ok (.ifCond .eq 10, 3) := by decide +kernel
theorem dX9_firstWrong_164 : decode cX9_firstWrong 164 = .ok (.aload_n 0, 1) := by decide +kernel
theorem dX9_firstWrong_165 : decode cX9_firstWrong 165 = .ok (.invokevirtual 73, 3) := by decide +kernel
theorem dX9_firstWrong_168 : decode cX9_firstWrong 168 = .ok (.goto 40, 3) := by decide +kernel
theorem dX9_firstWrong_171 : decode cX9_firstWrong 171 = .ok (.aload_n 0, 1) := by decide +kernel
theorem dX9_firstWrong_172 : decode cX9_firstWrong 172 = .ok (.getfield 28, 3) := by decide +kernel
theorem dX9_firstWrong_175 : decode cX9_firstWrong 175 = .ok (.invokevirtual 76, 3) := by decide +kernel
theorem dX9_firstWrong_178 : decode cX9_firstWrong 178 = .ok (.sipush 200, 3) := by decide +kernel
theorem dX9_firstWrong_181 : decode cX9_firstWrong 181 = .ok (.if_icmp .ge 12, 3) := by decide +kernel
theorem dX9_firstWrong_184 : decode cX9_firstWrong 184 = .ok (.aload_n 0, 1) := by decide +kernel
theorem dX9_firstWrong_185 : decode cX9_firstWrong 185 = .ok (.getfield 18, 3) := by decide +kernel
theorem dX9_firstWrong_188 : decode cX9_firstWrong 188 = .ok (.bipush 40, 2) := by decide +kernel
theorem dX9_firstWrong_190 : decode cX9_firstWrong 190 = .ok (.if_icmp .lt 14, 3) := by decide +kernel
theorem dX9_firstWrong_193 : decode cX9_firstWrong 193 = .ok (.aload_n 0, 1) := by decide +kernel
theorem dX9_firstWrong_194 : decode cX9_firstWrong 194 = .ok (.aload_n 0, 1) := by decide +kernel
theorem dX9_firstWrong_195 : decode cX9_firstWrong 195 = .ok (.getfield 9, 3) := by decide +kernel
theorem dX9_firstWrong_198 : decode cX9_firstWrong 198 = .ok (.putfield 21, 3) := by decide +kernel
theorem dX9_firstWrong_201 : decode cX9_firstWrong 201 = .ok (.goto 7, 3) := by decide +kernel
theorem dX9_firstWrong_204 : decode cX9_firstWrong 204 = .ok (.aload_n 0, 1) := by decide +kernel
theorem dX9_firstWrong_205 : decode cX9_firstWrong 205 = .ok (.invokevirtual 53, 3) := by decide +kernel
theorem dX9_firstWrong_208 : decode cX9_firstWrong 208 = .ok (.iinc 1 1, 3) := by decide +kernel
theorem dX9_firstWrong_211 : decode cX9_firstWrong 211 = .ok (.goto (-169), 3) := by decide +kernel
theorem dX9_firstWrong_214 : decode cX9_firstWrong 214 = .ok (.aload_n 0, 1) := by decide +kernel
theorem dX9_firstWrong_215 : decode cX9_firstWrong 215 = .ok (.getfield 21, 3) := by decide +kernel
theorem dX9_firstWrong_218 : decode cX9_firstWrong 218 = .ok (.iconst (-1), 1) := by decide +kernel
theorem dX9_firstWrong_219 : decode cX9_firstWrong 219 = .ok (.if_icmp .eq 8, 3) := by decide +kernel
theorem dX9_firstWrong_222 : decode cX9_firstWrong 222 = .ok (.aload_n 0, 1) := by decide +kernel
theorem dX9_firstWrong_223 : decode cX9_firstWrong 223 = .ok (.getfield 21, 3) := by decide +kernel
theorem dX9_firstWrong_226 : decode cX9_firstWrong 226 = .ok (.ireturn, 1) := by decide +kernel
theorem dX9_firstWrong_227 : decode cX9_firstWrong 227 = .ok (.aload_n 0, 1) := by decide +kernel
theorem dX9_firstWrong_228 : decode cX9_firstWrong 228 = .ok (.invokevirtual 44, 3) := by decide +kernel
theorem dX9_firstWrong_231 : decode cX9_firstWrong 231 = .ok (.aload_n 0, 1) := by decide +kernel
theorem dX9_firstWrong_232 : decode cX9_firstWrong 232 = .ok (.getfield 9, 3) := by decide +kernel
theorem dX9_firstWrong_235 : decode cX9_firstWrong 235 = .ok (.aload_n 0, 1) := by decide +kernel
theorem dX9_firstWrong_236 : decode cX9_firstWrong 236 = .ok (.getfield 24, 3) := by decide +kernel
theorem dX9_firstWrong_239 : decode cX9_firstWrong 239 = .ok (.invokevirtual 80, 3) := by decide +kernel
theorem dX9_firstWrong_242 : decode cX9_firstWrong 242 = .ok (.if_icmp .ge 10, 3) := by decide +kernel
theorem dX9_firstWrong_245 : decode cX9_firstWrong 245 = .ok (.aload_n 0, 1) := by decide +kernel
theorem dX9_firstWrong_246 : decode cX9_firstWrong 246 = .ok (.getfield 9, 3) := by decide +kernel
theorem dX9_firstWrong_249 : decode cX9_firstWrong 249 = .ok (.goto 4, 3) := by decide +kernel
theorem dX9_firstWrong_252 : decode cX9_firstWrong 252 = .ok (.iconst (-1), 1) := by decide +kernel
theorem dX9_firstWrong_253 : decode cX9_firstWrong 253 = .ok (.ireturn, 1) := by decide +kernel
theorem dX9_startTag_0 : decode cX9_startTag 0 = .ok (.aload_n 0, 1) := by decide +kernel
theorem dX9_startTag_1 : decode cX9_startTag 1 = .ok (.getfield 9, 3) := by decide +kernel
theorem dX9_startTag_4 : decode cX9_startTag 4 = .ok (.istore_n 1, 1) := by decide +kernel
theorem dX9_startTag_5 : decode cX9_startTag 5 = .ok (.aload_n 0, 1) := by decide +kernel
theorem dX9_startTag_6 : decode cX9_startTag 6 = .ok (.dup, 1) := by decide +kernel
theorem dX9_startTag_7 : decode cX9_startTag 7 = .ok (.getfield 9, 3) := by decide +kernel
theorem dX9_startTag_10 : decode cX9_startTag 10 = .ok (.iconst 1, 1) := by decide +kernel
theorem dX9_startTag_11 : decode cX9_startTag 11 = .ok (.iadd, 1) := by decide +kernel
theorem dX9_startTag_12 : decode cX9_startTag 12 = .ok (.putfield 9, 3) := by decide +kernel
theorem dX9_startTag_15 : decode cX9_startTag 15 = .ok (.aload_n 0, 1) := by decide +kernel
theorem dX9_startTag_16 : decode cX9_startTag 16 = .ok (.invokevirtual 83, 3) := by decide +kernel
theorem dX9_startTag_19 : decode cX9_startTag 19 = .ok (.aload_n 0, 1) := by decide +kernel
theorem dX9_startTag_20 : decode cX9_startTag 20 = .ok (.getfield 9, 3) := by decide +kernel
theorem dX9_startTag_23 : decode cX9_startTag 23 = .ok (.iload_n 1, 1) := by decide +kernel
theorem dX9_startTag_24 : decode cX9_startTag 24 = .ok (.iconst 1, 1) := by decide +kernel
theorem dX9_startTag_25 : decode cX9_startTag 25 = .ok (.iadd, 1) := by decide +kernel
theorem dX9_startTag_26 : decode cX9_startTag 26 = .ok (.if_icmp .ne 12, 3) := by decide +kernel
theorem dX9_startTag_29 : decode cX9_startTag 29 = .ok (.aload_n 0, 1) := by decide +kernel
theorem dX9_startTag_30 : decode cX9_startTag 30 = .ok (.aload_n 0, 1) := by decide +kernel
theorem dX9_startTag_31 : decode cX9_startTag 31 = .ok (.getfield 9, 3) := by decide +kernel
theorem dX9_startTag_34 : decode cX9_startTag 34 = .ok (.putfield 21, 3) := by decide +kernel
theorem dX9_startTag_37 : decode cX9_startTag 37 = .ok (.return_, 1) := by decide +kernel
theorem dX9_startTag_38 : decode cX9_startTag 38 = .ok (.aload_n 0, 1) := by decide +kernel
theorem dX9_startTag_39 : decode cX9_startTag 39 = .ok (.getfield 28, 3) := by decide +kernel
theorem dX9_startTag_42 : decode cX9_startTag 42 = .ok (.iload_n 1, 1) := by decide +kernel
theorem dX9_startTag_43 : decode cX9_startTag 43 = .ok (.aload_n 0, 1) := by decide +kernel
theorem dX9_startTag_44 : decode cX9_startTag 44 = .ok (.getfield 9, 3) := by decide +kernel
theorem dX9_startTag_47 : decode cX9_startTag 47 = .ok (.aload_n 0, 1) := by decide +kernel
theorem dX9_startTag_48 : decode cX9_startTag 48 = .ok (.getfield 15, 3) := by decide +kernel
theorem dX9_startTag_51 : decode cX9_startTag 51 = .ok (.invokevirtual 86, 3) := by decide +kernel
theorem dX9_startTag_54 : decode cX9_startTag 54 = .ok (.istore_n 2, 1) := by decide +kernel
theorem dX9_startTag_55 : decode cX9_startTag 55 = .ok (.iconst 0, 1) := by decide +kernel
theorem dX9_startTag_56 : decode cX9_startTag 56 = .ok (.istore_n 3, 1) := by decide +kernel
theorem dX9_startTag_57 : decode cX9_startTag 57 = .ok (.iload_n 3, 1) := by decide +kernel
theorem dX9_startTag_58 : decode cX9_startTag 58 = .ok (.sipush 600, 3) := by decide +kernel
theorem dX9_startTag_61 : decode cX9_startTag 61 = .ok (.if_icmp .gt 30, 3) := by decide +kernel
theorem dX9_startTag_64 : decode cX9_startTag 64 = .ok (.aload_n 0, 1) := by decide +kernel
theorem dX9_startTag_65 : decode cX9_startTag 65 = .ok (.invokevirtual 90, 3) := by decide +kernel
theorem dX9_startTag_68 : decode cX9_startTag 68 = .ok (.ifCond .eq 23, 3) := by decide +kernel
theorem dX9_startTag_71 : decode cX9_startTag 71 = .ok (.aload_n 0, 1) := by decide +kernel
theorem dX9_startTag_72 : decode cX9_startTag 72 = .ok (.iload_n 2, 1) := by decide +kernel
theorem dX9_startTag_73 : decode cX9_startTag 73 = .ok (.invokevirtual 94, 3) := by decide +kernel
theorem dX9_startTag_76 : decode cX9_startTag 76 = .ok (.aload_n 0, 1) := by decide +kernel
theorem dX9_startTag_77 : decode cX9_startTag 77 = .ok (.getfield 21, 3) := by decide +kernel
theorem dX9_startTag_80 : decode cX9_startTag 80 = .ok (.iconst (-1), 1) := by decide +kernel
theorem dX9_startTag_81 : decode cX9_startTag 81 = .ok (.if_icmp .eq 4, 3) := by decide +kernel
theorem dX9_startTag_84 : decode cX9_startTag 84 = .ok (.return_, 1) := by decide +kernel
theorem dX9_startTag_85 : decode cX9_startTag 85 = .ok (.iinc 3 1, 3) := by decide +kernel
theorem dX9_startTag_88 : decode cX9_startTag 88 = .ok (.goto (-31), 3) := by decide +kernel
theorem dX9_startTag_91 : decode cX9_startTag 91 = .ok (.aload_n 0, 1) := by decide +kernel
theorem dX9_startTag_92 : decode cX9_startTag 92 = .ok (.getfield 24, 3) := by decide +kernel
theorem dX9_startTag_95 : decode cX9_startTag 95 = .ok (.aload_n 0, 1) := by decide +kernel
theorem dX9_startTag_96 : decode cX9_startTag 96 = .ok (.getfield 9, 3) := by decide +kernel
theorem dX9_startTag_99 : decode cX9_startTag 99 = .ok (.invokevirtual 47, 3) := by decide +kernel
theorem dX9_startTag_102 : decode cX9_startTag 102 = .ok (.bipush 47, 2) := by decide +kernel
theorem dX9_startTag_104 : decode cX9_startTag 104 = .ok (.if_icmp .ne 7, 3) := by decide +kernel
theorem dX9_startTag_107 : decode cX9_startTag 107 = .ok (.iconst 1, 1) := by decide +kernel
theorem dX9_startTag_108 : decode cX9_startTag 108 = .ok (.goto 4, 3) := by decide +kernel
theorem dX9_startTag_111 : decode cX9_startTag 111 = .ok (.iconst 0, 1) := by decide +kernel
theorem dX9_startTag_112 : decode cX9_startTag 112 = .ok (.istore_n 3, 1) := by decide +kernel
theorem dX9_startTag_113 : decode cX9_startTag 113 = .ok (.iload_n 3, 1) := by decide +kernel
theorem dX9_startTag_114 : decode cX9_startTag 114 = .ok (.ifCond .eq 13, 3) := by decide +kernel
theorem dX9_startTag_117 : decode cX9_startTag 117 = .ok (.aload_n 0, 1) := by decide +kernel
theorem dX9_startTag_118 : decode cX9_startTag 118 = .ok (.dup, 1) := by decide +kernel
theorem dX9_startTag_119 : decode cX9_startTag 119 = .ok (.getfield 9, 3) := by decide +kernel
theorem dX9_startTag_122 : decode cX9_startTag 122 = .ok (.iconst 1, 1) := by decide +kernel
theorem dX9_startTag_123 : decode cX9_startTag 123 = .ok (.iadd, 1) := by decide +kernel

