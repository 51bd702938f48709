theorem d_Ar_rangeCheck_34 : decode b_Ar_rangeCheck 34 = .ok (.ldc 59, 2) := by decide +kernel
theorem d_Ar_rangeCheck_36 : decode b_Ar_rangeCheck 36 = .ok (.invokevirtual 50, 3) := by decide +kernel
theorem d_Ar_rangeCheck_39 : decode b_Ar_rangeCheck 39 = .ok (.invokevirtual 61, 3) := by decide +kernel
theorem d_Ar_rangeCheck_42 : decode b_Ar_rangeCheck 42 = .ok (.invokespecial 65, 3) := by decide +kernel
theorem d_Ar_rangeCheck_45 : decode b_Ar_rangeCheck 45 = .ok (.athrow, 1) := by decide +kernel
theorem d_Ar_rangeCheck_46 : decode b_Ar_rangeCheck 46 = .ok (.iload_n 1, 1) := by decide +kernel
theorem d_Ar_rangeCheck_47 : decode b_Ar_rangeCheck 47 = .ok (.ifCond .ge 12, 3) := by decide +kernel
theorem d_Ar_rangeCheck_50 : decode b_Ar_rangeCheck 50 = .ok (.new 68, 3) := by decide +kernel
theorem d_Ar_rangeCheck_53 : decode b_Ar_rangeCheck 53 = .ok (.dup, 1) := by decide +kernel
theorem d_Ar_rangeCheck_54 : decode b_Ar_rangeCheck 54 = .ok (.iload_n 1, 1) := by decide +kernel
theorem d_Ar_rangeCheck_55 : decode b_Ar_rangeCheck 55 = .ok (.invokespecial 70, 3) := by decide +kernel
theorem d_Ar_rangeCheck_58 : decode b_Ar_rangeCheck 58 = .ok (.athrow, 1) := by decide +kernel
theorem d_Ar_rangeCheck_59 : decode b_Ar_rangeCheck 59 = .ok (.iload_n 2, 1) := by decide +kernel
theorem d_Ar_rangeCheck_60 : decode b_Ar_rangeCheck 60 = .ok (.iload_n 0, 1) := by decide +kernel
theorem d_Ar_rangeCheck_61 : decode b_Ar_rangeCheck 61 = .ok (.if_icmp .le 12, 3) := by decide +kernel
theorem d_Ar_rangeCheck_64 : decode b_Ar_rangeCheck 64 = .ok (.new 68, 3) := by decide +kernel
theorem d_Ar_rangeCheck_67 : decode b_Ar_rangeCheck 67 = .ok (.dup, 1) := by decide +kernel
theorem d_Ar_rangeCheck_68 : decode b_Ar_rangeCheck 68 = .ok (.iload_n 2, 1) := by decide +kernel
theorem d_Ar_rangeCheck_69 : decode b_Ar_rangeCheck 69 = .ok (.invokespecial 70, 3) := by decide +kernel
theorem d_Ar_rangeCheck_72 : decode b_Ar_rangeCheck 72 = .ok (.athrow, 1) := by decide +kernel
theorem d_Ar_rangeCheck_73 : decode b_Ar_rangeCheck 73 = .ok (.return_, 1) := by decide +kernel
theorem d_Rb_giveToAllWith_0 : decode b_Rb_giveToAllWith 0 = .ok (.iconst 0, 1) := by decide +kernel
theorem d_Rb_giveToAllWith_1 : decode b_Rb_giveToAllWith 1 = .ok (.istore 4, 2) := by decide +kernel
theorem d_Rb_giveToAllWith_3 : decode b_Rb_giveToAllWith 3 = .ok (.iload 4, 2) := by decide +kernel
theorem d_Rb_giveToAllWith_5 : decode b_Rb_giveToAllWith 5 = .ok (.aload_n 2, 1) := by decide +kernel
theorem d_Rb_giveToAllWith_6 : decode b_Rb_giveToAllWith 6 = .ok (.invokevirtual 32, 3) := by decide +kernel
theorem d_Rb_giveToAllWith_9 : decode b_Rb_giveToAllWith 9 = .ok (.if_icmp .ge 31, 3) := by decide +kernel
theorem d_Rb_giveToAllWith_12 : decode b_Rb_giveToAllWith 12 = .ok (.aload_n 0, 1) := by decide +kernel
theorem d_Rb_giveToAllWith_13 : decode b_Rb_giveToAllWith 13 = .ok (.getfield 9, 3) := by decide +kernel
theorem d_Rb_giveToAllWith_16 : decode b_Rb_giveToAllWith 16 = .ok (.iload 4, 2) := by decide +kernel
theorem d_Rb_giveToAllWith_18 : decode b_Rb_giveToAllWith 18 = .ok (.iaload, 1) := by decide +kernel
theorem d_Rb_giveToAllWith_19 : decode b_Rb_giveToAllWith 19 = .ok (.iload_n 1, 1) := by decide +kernel
theorem d_Rb_giveToAllWith_20 : decode b_Rb_giveToAllWith 20 = .ok (.if_icmp .ne 14, 3) := by decide +kernel
theorem d_Rb_giveToAllWith_23 : decode b_Rb_giveToAllWith 23 = .ok (.aload_n 3, 1) := by decide +kernel
theorem d_Rb_giveToAllWith_24 : decode b_Rb_giveToAllWith 24 = .ok (.aload_n 2, 1) := by decide +kernel
theorem d_Rb_giveToAllWith_25 : decode b_Rb_giveToAllWith 25 = .ok (.iload 4, 2) := by decide +kernel
theorem d_Rb_giveToAllWith_27 : decode b_Rb_giveToAllWith 27 = .ok (.invokevirtual 61, 3) := by decide +kernel
theorem d_Rb_giveToAllWith_30 : decode b_Rb_giveToAllWith 30 = .ok (.iload_n 1, 1) := by decide +kernel
theorem d_Rb_giveToAllWith_31 : decode b_Rb_giveToAllWith 31 = .ok (.invokevirtual 64, 3) := by decide +kernel
theorem d_Rb_giveToAllWith_34 : decode b_Rb_giveToAllWith 34 = .ok (.iinc 4 1, 3) := by decide +kernel
theorem d_Rb_giveToAllWith_37 : decode b_Rb_giveToAllWith 37 = .ok (.goto (-34), 3) := by decide +kernel
theorem d_Rb_giveToAllWith_40 : decode b_Rb_giveToAllWith 40 = .ok (.return_, 1) := by decide +kernel
theorem d_Cy_giveTo_0 : decode b_Cy_giveTo 0 = .ok (.aload_n 0, 1) := by decide +kernel
theorem d_Cy_giveTo_1 : decode b_Cy_giveTo 1 = .ok (.invokevirtual 38, 3) := by decide +kernel
theorem d_Cy_giveTo_4 : decode b_Cy_giveTo 4 = .ok (.istore_n 3, 1) := by decide +kernel
theorem d_Cy_giveTo_5 : decode b_Cy_giveTo 5 = .ok (.iload_n 2, 1) := by decide +kernel
theorem d_Cy_giveTo_6 : decode b_Cy_giveTo 6 = .ok (.ifCond .le 25, 3) := by decide +kernel
theorem d_Cy_giveTo_9 : decode b_Cy_giveTo 9 = .ok (.iload_n 3, 1) := by decide +kernel
theorem d_Cy_giveTo_10 : decode b_Cy_giveTo 10 = .ok (.aload_n 0, 1) := by decide +kernel
theorem d_Cy_giveTo_11 : decode b_Cy_giveTo 11 = .ok (.getfield 15, 3) := by decide +kernel
theorem d_Cy_giveTo_14 : decode b_Cy_giveTo 14 = .ok (.if_icmp .ge 17, 3) := by decide +kernel
theorem d_Cy_giveTo_17 : decode b_Cy_giveTo 17 = .ok (.aload_n 0, 1) := by decide +kernel
theorem d_Cy_giveTo_18 : decode b_Cy_giveTo 18 = .ok (.getfield 9, 3) := by decide +kernel
theorem d_Cy_giveTo_21 : decode b_Cy_giveTo 21 = .ok (.iload_n 3, 1) := by decide +kernel
theorem d_Cy_giveTo_22 : decode b_Cy_giveTo 22 = .ok (.iload_n 1, 1) := by decide +kernel
theorem d_Cy_giveTo_23 : decode b_Cy_giveTo 23 = .ok (.iastore, 1) := by decide +kernel
theorem d_Cy_giveTo_24 : decode b_Cy_giveTo 24 = .ok (.iload_n 3, 1) := by decide +kernel
theorem d_Cy_giveTo_25 : decode b_Cy_giveTo 25 = .ok (.iload_n 2, 1) := by decide +kernel
theorem d_Cy_giveTo_26 : decode b_Cy_giveTo 26 = .ok (.iadd, 1) := by decide +kernel
theorem d_Cy_giveTo_27 : decode b_Cy_giveTo 27 = .ok (.istore_n 3, 1) := by decide +kernel
theorem d_Cy_giveTo_28 : decode b_Cy_giveTo 28 = .ok (.goto (-23), 3) := by decide +kernel
theorem d_Cy_giveTo_31 : decode b_Cy_giveTo 31 = .ok (.return_, 1) := by decide +kernel
theorem d_Cy_firstFree_0 : decode b_Cy_firstFree 0 = .ok (.iconst 0, 1) := by decide +kernel
theorem d_Cy_firstFree_1 : decode b_Cy_firstFree 1 = .ok (.istore_n 1, 1) := by decide +kernel
theorem d_Cy_firstFree_2 : decode b_Cy_firstFree 2 = .ok (.iload_n 1, 1) := by decide +kernel
theorem d_Cy_firstFree_3 : decode b_Cy_firstFree 3 = .ok (.aload_n 0, 1) := by decide +kernel
theorem d_Cy_firstFree_4 : decode b_Cy_firstFree 4 = .ok (.getfield 15, 3) := by decide +kernel
theorem d_Cy_firstFree_7 : decode b_Cy_firstFree 7 = .ok (.if_icmp .ge 18, 3) := by decide +kernel
theorem d_Cy_firstFree_10 : decode b_Cy_firstFree 10 = .ok (.aload_n 0, 1) := by decide +kernel
theorem d_Cy_firstFree_11 : decode b_Cy_firstFree 11 = .ok (.getfield 9, 3) := by decide +kernel
theorem d_Cy_firstFree_14 : decode b_Cy_firstFree 14 = .ok (.iload_n 1, 1) := by decide +kernel
theorem d_Cy_firstFree_15 : decode b_Cy_firstFree 15 = .ok (.iaload, 1) := by decide +kernel
theorem d_Cy_firstFree_16 : decode b_Cy_firstFree 16 = .ok (.ifCond .eq 9, 3) := by decide +kernel
theorem d_Cy_firstFree_19 : decode b_Cy_firstFree 19 = .ok (.iinc 1 1, 3) := by decide +kernel
theorem d_Cy_firstFree_22 : decode b_Cy_firstFree 22 = .ok (.goto (-20), 3) := by decide +kernel
theorem d_Cy_firstFree_25 : decode b_Cy_firstFree 25 = .ok (.iload_n 1, 1) := by decide +kernel
theorem d_Cy_firstFree_26 : decode b_Cy_firstFree 26 = .ok (.ireturn, 1) := by decide +kernel
theorem d_Rb_layByBases_0 : decode b_Rb_layByBases 0 = .ok (.aload_n 1, 1) := by decide +kernel
theorem d_Rb_layByBases_1 : decode b_Rb_layByBases 1 = .ok (.invokevirtual 19, 3) := by decide +kernel
theorem d_Rb_layByBases_4 : decode b_Rb_layByBases 4 = .ok (.istore_n 3, 1) := by decide +kernel
theorem d_Rb_layByBases_5 : decode b_Rb_layByBases 5 = .ok (.iconst 0, 1) := by decide +kernel
theorem d_Rb_layByBases_6 : decode b_Rb_layByBases 6 = .ok (.istore 4, 2) := by decide +kernel
theorem d_Rb_layByBases_8 : decode b_Rb_layByBases 8 = .ok (.iload 4, 2) := by decide +kernel
theorem d_Rb_layByBases_10 : decode b_Rb_layByBases 10 = .ok (.getstatic 25, 3) := by decide +kernel
theorem d_Rb_layByBases_13 : decode b_Rb_layByBases 13 = .ok (.arraylength, 1) := by decide +kernel
theorem d_Rb_layByBases_14 : decode b_Rb_layByBases 14 = .ok (.if_icmp .ge 36, 3) := by decide +kernel
theorem d_Rb_layByBases_17 : decode b_Rb_layByBases 17 = .ok (.getstatic 25, 3) := by decide +kernel
theorem d_Rb_layByBases_20 : decode b_Rb_layByBases 20 = .ok (.iload 4, 2) := by decide +kernel
theorem d_Rb_layByBases_22 : decode b_Rb_layByBases 22 = .ok (.iaload, 1) := by decide +kernel
theorem d_Rb_layByBases_23 : decode b_Rb_layByBases 23 = .ok (.iload_n 3, 1) := by decide +kernel
theorem d_Rb_layByBases_24 : decode b_Rb_layByBases 24 = .ok (.if_icmp .gt 26, 3) := by decide +kernel
theorem d_Rb_layByBases_27 : decode b_Rb_layByBases 27 = .ok (.aload_n 0, 1) := by decide +kernel
theorem d_Rb_layByBases_28 : decode b_Rb_layByBases 28 = .ok (.getstatic 25, 3) := by decide +kernel
theorem d_Rb_layByBases_31 : decode b_Rb_layByBases 31 = .ok (.iload 4, 2) := by decide +kernel
theorem d_Rb_layByBases_33 : decode b_Rb_layByBases 33 = .ok (.iaload, 1) := by decide +kernel
theorem d_Rb_layByBases_34 : decode b_Rb_layByBases 34 = .ok (.aload_n 1, 1) := by decide +kernel
theorem d_Rb_layByBases_35 : decode b_Rb_layByBases 35 = .ok (.aload_n 2, 1) := by decide +kernel
theorem d_Rb_layByBases_36 : decode b_Rb_layByBases 36 = .ok (.invokevirtual 15, 3) := by decide +kernel
theorem d_Rb_layByBases_39 : decode b_Rb_layByBases 39 = .ok (.ifCond .eq 5, 3) := by decide +kernel
theorem d_Rb_layByBases_42 : decode b_Rb_layByBases 42 = .ok (.iconst 1, 1) := by decide +kernel
theorem d_Rb_layByBases_43 : decode b_Rb_layByBases 43 = .ok (.ireturn, 1) := by decide +kernel
theorem d_Rb_layByBases_44 : decode b_Rb_layByBases 44 = .ok (.iinc 4 1, 3) := by decide +kernel
theorem d_Rb_layByBases_47 : decode b_Rb_layByBases 47 = .ok (.goto (-39), 3) := by decide +kernel
theorem d_Rb_layByBases_50 : decode b_Rb_layByBases 50 = .ok (.iconst 0, 1) := by decide +kernel
theorem d_Rb_layByBases_51 : decode b_Rb_layByBases 51 = .ok (.ireturn, 1) := by decide +kernel
theorem d_Cl_leastSpan_0 : decode b_Cl_leastSpan 0 = .ok (.bipush 40, 2) := by decide +kernel
theorem d_Cl_leastSpan_2 : decode b_Cl_leastSpan 2 = .ok (.istore_n 1, 1) := by decide +kernel
theorem d_Cl_leastSpan_3 : decode b_Cl_leastSpan 3 = .ok (.iconst 0, 1) := by decide +kernel
theorem d_Cl_leastSpan_4 : decode b_Cl_leastSpan 4 = .ok (.istore_n 2, 1) := by decide +kernel
theorem d_Cl_leastSpan_5 : decode b_Cl_leastSpan 5 = .ok (.iload_n 2, 1) := by decide +kernel
theorem d_Cl_leastSpan_6 : decode b_Cl_leastSpan 6 = .ok (.aload_n 0, 1) := by decide +kernel
theorem d_Cl_leastSpan_7 : decode b_Cl_leastSpan 7 = .ok (.getfield 24, 3) := by decide +kernel
theorem d_Cl_leastSpan_10 : decode b_Cl_leastSpan 10 = .ok (.if_icmp .ge 20, 3) := by decide +kernel
theorem d_Cl_leastSpan_13 : decode b_Cl_leastSpan 13 = .ok (.iload_n 1, 1) := by decide +kernel
theorem d_Cl_leastSpan_14 : decode b_Cl_leastSpan 14 = .ok (.aload_n 0, 1) := by decide +kernel
theorem d_Cl_leastSpan_15 : decode b_Cl_leastSpan 15 = .ok (.getfield 15, 3) := by decide +kernel
theorem d_Cl_leastSpan_18 : decode b_Cl_leastSpan 18 = .ok (.iload_n 2, 1) := by decide +kernel
theorem d_Cl_leastSpan_19 : decode b_Cl_leastSpan 19 = .ok (.iaload, 1) := by decide +kernel
theorem d_Cl_leastSpan_20 : decode b_Cl_leastSpan 20 = .ok (.invokestatic 28, 3) := by decide +kernel
theorem d_Cl_leastSpan_23 : decode b_Cl_leastSpan 23 = .ok (.istore_n 1, 1) := by decide +kernel
theorem d_Cl_leastSpan_24 : decode b_Cl_leastSpan 24 = .ok (.iinc 2 1, 3) := by decide +kernel
theorem d_Cl_leastSpan_27 : decode b_Cl_leastSpan 27 = .ok (.goto (-22), 3) := by decide +kernel
theorem d_Cl_leastSpan_30 : decode b_Cl_leastSpan 30 = .ok (.iload_n 1, 1) := by decide +kernel
theorem d_Cl_leastSpan_31 : decode b_Cl_leastSpan 31 = .ok (.ireturn, 1) := by decide +kernel
theorem d_Sb_lay_0 : decode b_Sb_lay 0 = .ok (.aload_n 0, 1) := by decide +kernel
theorem d_Sb_lay_1 : decode b_Sb_lay 1 = .ok (.aload_n 1, 1) := by decide +kernel
theorem d_Sb_lay_2 : decode b_Sb_lay 2 = .ok (.invokevirtual 46, 3) := by decide +kernel
theorem d_Sb_lay_5 : decode b_Sb_lay 5 = .ok (.ifCond .eq 10, 3) := by decide +kernel
theorem d_Sb_lay_8 : decode b_Sb_lay 8 = .ok (.aload_n 0, 1) := by decide +kernel
theorem d_Sb_lay_9 : decode b_Sb_lay 9 = .ok (.invokevirtual 50, 3) := by decide +kernel
theorem d_Sb_lay_12 : decode b_Sb_lay 12 = .ok (.ifCond .ne 5, 3) := by decide +kernel
theorem d_Sb_lay_15 : decode b_Sb_lay 15 = .ok (.iconst 0, 1) := by decide +kernel
theorem d_Sb_lay_16 : decode b_Sb_lay 16 = .ok (.ireturn, 1) := by decide +kernel
theorem d_Sb_lay_17 : decode b_Sb_lay 17 = .ok (.aload_n 0, 1) := by decide +kernel
theorem d_Sb_lay_18 : decode b_Sb_lay 18 = .ok (.getfield 40, 3) := by decide +kernel
theorem d_Sb_lay_21 : decode b_Sb_lay 21 = .ok (.iconst 0, 1) := by decide +kernel
theorem d_Sb_lay_22 : decode b_Sb_lay 22 = .ok (.aload_n 0, 1) := by decide +kernel
theorem d_Sb_lay_23 : decode b_Sb_lay 23 = .ok (.getfield 25, 3) := by decide +kernel
theorem d_Sb_lay_26 : decode b_Sb_lay 26 = .ok (.iconst (-1), 1) := by decide +kernel
theorem d_Sb_lay_27 : decode b_Sb_lay 27 = .ok (.invokestatic 54, 3) := by decide +kernel
theorem d_Sb_lay_30 : decode b_Sb_lay 30 = .ok (.aload_n 0, 1) := by decide +kernel
theorem d_Sb_lay_31 : decode b_Sb_lay 31 = .ok (.getfield 25, 3) := by decide +kernel
theorem d_Sb_lay_34 : decode b_Sb_lay 34 = .ok (.iconst 1, 1) := by decide +kernel
theorem d_Sb_lay_35 : decode b_Sb_lay 35 = .ok (.isub, 1) := by decide +kernel
theorem d_Sb_lay_36 : decode b_Sb_lay 36 = .ok (.istore_n 3, 1) := by decide +kernel
theorem d_Sb_lay_37 : decode b_Sb_lay 37 = .ok (.iconst 0, 1) := by decide +kernel
theorem d_Sb_lay_38 : decode b_Sb_lay 38 = .ok (.istore 4, 2) := by decide +kernel
theorem d_Sb_lay_40 : decode b_Sb_lay 40 = .ok (.iload 4, 2) := by decide +kernel
theorem d_Sb_lay_42 : decode b_Sb_lay 42 = .ok (.aload_n 0, 1) := by decide +kernel
theorem d_Sb_lay_43 : decode b_Sb_lay 43 = .ok (.getfield 25, 3) := by decide +kernel
theorem d_Sb_lay_46 : decode b_Sb_lay 46 = .ok (.if_icmp .ge 56, 3) := by decide +kernel
theorem d_Sb_lay_49 : decode b_Sb_lay 49 = .ok (.aload_n 0, 1) := by decide +kernel
theorem d_Sb_lay_50 : decode b_Sb_lay 50 = .ok (.getfield 40, 3) := by decide +kernel
theorem d_Sb_lay_53 : decode b_Sb_lay 53 = .ok (.iload_n 3, 1) := by decide +kernel
theorem d_Sb_lay_54 : decode b_Sb_lay 54 = .ok (.iaload, 1) := by decide +kernel
theorem d_Sb_lay_55 : decode b_Sb_lay 55 = .ok (.iconst (-1), 1) := by decide +kernel
theorem d_Sb_lay_56 : decode b_Sb_lay 56 = .ok (.if_icmp .ne 46, 3) := by decide +kernel
theorem d_Sb_lay_59 : decode b_Sb_lay 59 = .ok (.aload_n 0, 1) := by decide +kernel
theorem d_Sb_lay_60 : decode b_Sb_lay 60 = .ok (.iload_n 3, 1) := by decide +kernel
theorem d_Sb_lay_61 : decode b_Sb_lay 61 = .ok (.invokevirtual 60, 3) := by decide +kernel
theorem d_Sb_lay_64 : decode b_Sb_lay 64 = .ok (.istore 5, 2) := by decide +kernel
theorem d_Sb_lay_66 : decode b_Sb_lay 66 = .ok (.aload_n 0, 1) := by decide +kernel
theorem d_Sb_lay_67 : decode b_Sb_lay 67 = .ok (.getfield 40, 3) := by decide +kernel
theorem d_Sb_lay_70 : decode b_Sb_lay 70 = .ok (.iload_n 3, 1) := by decide +kernel
theorem d_Sb_lay_71 : decode b_Sb_lay 71 = .ok (.iload 4, 2) := by decide +kernel
theorem d_Sb_lay_73 : decode b_Sb_lay 73 = .ok (.iastore, 1) := by decide +kernel
theorem d_Sb_lay_74 : decode b_Sb_lay 74 = .ok (.aload_n 0, 1) := by decide +kernel
theorem d_Sb_lay_75 : decode b_Sb_lay 75 = .ok (.getfield 43, 3) := by decide +kernel
theorem d_Sb_lay_78 : decode b_Sb_lay 78 = .ok (.iload 4, 2) := by decide +kernel
theorem d_Sb_lay_80 : decode b_Sb_lay 80 = .ok (.aload_n 0, 1) := by decide +kernel
theorem d_Sb_lay_81 : decode b_Sb_lay 81 = .ok (.getfield 9, 3) := by decide +kernel
theorem d_Sb_lay_84 : decode b_Sb_lay 84 = .ok (.iload 5, 2) := by decide +kernel
theorem d_Sb_lay_86 : decode b_Sb_lay 86 = .ok (.iaload, 1) := by decide +kernel
theorem d_Sb_lay_87 : decode b_Sb_lay 87 = .ok (.iastore, 1) := by decide +kernel
theorem d_Sb_lay_88 : decode b_Sb_lay 88 = .ok (.aload_n 0, 1) := by decide +kernel
theorem d_Sb_lay_89 : decode b_Sb_lay 89 = .ok (.iload_n 3, 1) := by decide +kernel
theorem d_Sb_lay_90 : decode b_Sb_lay 90 = .ok (.iload 5, 2) := by decide +kernel
theorem d_Sb_lay_92 : decode b_Sb_lay 92 = .ok (.invokevirtual 64, 3) := by decide +kernel
theorem d_Sb_lay_95 : decode b_Sb_lay 95 = .ok (.istore_n 3, 1) := by decide +kernel
theorem d_Sb_lay_96 : decode b_Sb_lay 96 = .ok (.iinc 4 1, 3) := by decide +kernel
theorem d_Sb_lay_99 : decode b_Sb_lay 99 = .ok (.goto (-59), 3) := by decide +kernel
theorem d_Sb_lay_102 : decode b_Sb_lay 102 = .ok (.aload_n 2, 1) := by decide +kernel
theorem d_Sb_lay_103 : decode b_Sb_lay 103 = .ok (.aload_n 0, 1) := by decide +kernel
theorem d_Sb_lay_104 : decode b_Sb_lay 104 = .ok (.getfield 43, 3) := by decide +kernel
theorem d_Sb_lay_107 : decode b_Sb_lay 107 = .ok (.aload_n 0, 1) := by decide +kernel
theorem d_Sb_lay_108 : decode b_Sb_lay 108 = .ok (.getfield 40, 3) := by decide +kernel
theorem d_Sb_lay_111 : decode b_Sb_lay 111 = .ok (.iload_n 3, 1) := by decide +kernel
theorem d_Sb_lay_112 : decode b_Sb_lay 112 = .ok (.iaload, 1) := by decide +kernel
theorem d_Sb_lay_113 : decode b_Sb_lay 113 = .ok (.iload 4, 2) := by decide +kernel
theorem d_Sb_lay_115 : decode b_Sb_lay 115 = .ok (.aload_n 0, 1) := by decide +kernel
theorem d_Sb_lay_116 : decode b_Sb_lay 116 = .ok (.getfield 40, 3) := by decide +kernel
theorem d_Sb_lay_119 : decode b_Sb_lay 119 = .ok (.iload_n 3, 1) := by decide +kernel
theorem d_Sb_lay_120 : decode b_Sb_lay 120 = .ok (.iaload, 1) := by decide +kernel
theorem d_Sb_lay_121 : decode b_Sb_lay 121 = .ok (.isub, 1) := by decide +kernel
theorem d_Sb_lay_122 : decode b_Sb_lay 122 = .ok (.invokevirtual 68, 3) := by decide +kernel
theorem d_Sb_lay_125 : decode b_Sb_lay 125 = .ok (.iconst 1, 1) := by decide +kernel
theorem d_Sb_lay_126 : decode b_Sb_lay 126 = .ok (.ireturn, 1) := by decide +kernel
theorem d_Sb_firstSafeTurn_0 : decode b_Sb_firstSafeTurn 0 = .ok (.iconst 0, 1) := by decide +kernel
theorem d_Sb_firstSafeTurn_1 : decode b_Sb_firstSafeTurn 1 = .ok (.istore_n 2, 1) := by decide +kernel
theorem d_Sb_firstSafeTurn_2 : decode b_Sb_firstSafeTurn 2 = .ok (.iload_n 2, 1) := by decide +kernel
theorem d_Sb_firstSafeTurn_3 : decode b_Sb_firstSafeTurn 3 = .ok (.aload_n 0, 1) := by decide +kernel
theorem d_Sb_firstSafeTurn_4 : decode b_Sb_firstSafeTurn 4 = .ok (.getfield 21, 3) := by decide +kernel
theorem d_Sb_firstSafeTurn_7 : decode b_Sb_firstSafeTurn 7 = .ok (.iconst 1, 1) := by decide +kernel
theorem d_Sb_firstSafeTurn_8 : decode b_Sb_firstSafeTurn 8 = .ok (.isub, 1) := by decide +kernel
theorem d_Sb_firstSafeTurn_9 : decode b_Sb_firstSafeTurn 9 = .ok (.if_icmp .ge 18, 3) := by decide +kernel
theorem d_Sb_firstSafeTurn_12 : decode b_Sb_firstSafeTurn 12 = .ok (.aload_n 0, 1) := by decide +kernel
theorem d_Sb_firstSafeTurn_13 : decode b_Sb_firstSafeTurn 13 = .ok (.iload_n 1, 1) := by decide +kernel
theorem d_Sb_firstSafeTurn_14 : decode b_Sb_firstSafeTurn 14 = .ok (.iload_n 2, 1) := by decide +kernel
theorem d_Sb_firstSafeTurn_15 : decode b_Sb_firstSafeTurn 15 = .ok (.invokevirtual 112, 3) := by decide +kernel
theorem d_Sb_firstSafeTurn_18 : decode b_Sb_firstSafeTurn 18 = .ok (.ifCond .ne 9, 3) := by decide +kernel
theorem d_Sb_firstSafeTurn_21 : decode b_Sb_firstSafeTurn 21 = .ok (.iinc 2 1, 3) := by decide +kernel
theorem d_Sb_firstSafeTurn_24 : decode b_Sb_firstSafeTurn 24 = .ok (.goto (-22), 3) := by decide +kernel
theorem d_Sb_firstSafeTurn_27 : decode b_Sb_firstSafeTurn 27 = .ok (.iload_n 2, 1) := by decide +kernel
theorem d_Sb_firstSafeTurn_28 : decode b_Sb_firstSafeTurn 28 = .ok (.ireturn, 1) := by decide +kernel
theorem d_Sb_leadsToSafe_0 : decode b_Sb_leadsToSafe 0 = .ok (.aload_n 0, 1) := by decide +kernel
theorem d_Sb_leadsToSafe_1 : decode b_Sb_leadsToSafe 1 = .ok (.iload_n 1, 1) := by decide +kernel
theorem d_Sb_leadsToSafe_2 : decode b_Sb_leadsToSafe 2 = .ok (.iload_n 2, 1) := by decide +kernel
theorem d_Sb_leadsToSafe_3 : decode b_Sb_leadsToSafe 3 = .ok (.invokevirtual 115, 3) := by decide +kernel
theorem d_Sb_leadsToSafe_6 : decode b_Sb_leadsToSafe 6 = .ok (.ifCond .eq 21, 3) := by decide +kernel
theorem d_Sb_leadsToSafe_9 : decode b_Sb_leadsToSafe 9 = .ok (.aload_n 0, 1) := by decide +kernel
theorem d_Sb_leadsToSafe_10 : decode b_Sb_leadsToSafe 10 = .ok (.getfield 31, 3) := by decide +kernel
theorem d_Sb_leadsToSafe_13 : decode b_Sb_leadsToSafe 13 = .ok (.aload_n 0, 1) := by decide +kernel
theorem d_Sb_leadsToSafe_14 : decode b_Sb_leadsToSafe 14 = .ok (.iload_n 1, 1) := by decide +kernel
theorem d_Sb_leadsToSafe_15 : decode b_Sb_leadsToSafe 15 = .ok (.iload_n 2, 1) := by decide +kernel
theorem d_Sb_leadsToSafe_16 : decode b_Sb_leadsToSafe 16 = .ok (.invokevirtual 64, 3) := by decide +kernel
theorem d_Sb_leadsToSafe_19 : decode b_Sb_leadsToSafe 19 = .ok (.iaload, 1) := by decide +kernel
theorem d_Sb_leadsToSafe_20 : decode b_Sb_leadsToSafe 20 = .ok (.ifCond .le 7, 3) := by decide +kernel
theorem d_Sb_leadsToSafe_23 : decode b_Sb_leadsToSafe 23 = .ok (.iconst 1, 1) := by decide +kernel
theorem d_Sb_leadsToSafe_24 : decode b_Sb_leadsToSafe 24 = .ok (.goto 4, 3) := by decide +kernel
theorem d_Sb_leadsToSafe_27 : decode b_Sb_leadsToSafe 27 = .ok (.iconst 0, 1) := by decide +kernel
theorem d_Sb_leadsToSafe_28 : decode b_Sb_leadsToSafe 28 = .ok (.ireturn, 1) := by decide +kernel
theorem d_Sb_canServe_0 : decode b_Sb_canServe 0 = .ok (.iconst 0, 1) := by decide +kernel
theorem d_Sb_canServe_1 : decode b_Sb_canServe 1 = .ok (.istore_n 3, 1) := by decide +kernel
theorem d_Sb_canServe_2 : decode b_Sb_canServe 2 = .ok (.iload_n 3, 1) := by decide +kernel
theorem d_Sb_canServe_3 : decode b_Sb_canServe 3 = .ok (.aload_n 0, 1) := by decide +kernel
theorem d_Sb_canServe_4 : decode b_Sb_canServe 4 = .ok (.getfield 21, 3) := by decide +kernel
theorem d_Sb_canServe_7 : decode b_Sb_canServe 7 = .ok (.if_icmp .ge 25, 3) := by decide +kernel
theorem d_Sb_canServe_10 : decode b_Sb_canServe 10 = .ok (.iload_n 3, 1) := by decide +kernel
theorem d_Sb_canServe_11 : decode b_Sb_canServe 11 = .ok (.iload_n 2, 1) := by decide +kernel
theorem d_Sb_canServe_12 : decode b_Sb_canServe 12 = .ok (.if_icmp .eq 14, 3) := by decide +kernel
theorem d_Sb_canServe_15 : decode b_Sb_canServe 15 = .ok (.aload_n 0, 1) := by decide +kernel
theorem d_Sb_canServe_16 : decode b_Sb_canServe 16 = .ok (.iload_n 1, 1) := by decide +kernel
theorem d_Sb_canServe_17 : decode b_Sb_canServe 17 = .ok (.iload_n 3, 1) := by decide +kernel
theorem d_Sb_canServe_18 : decode b_Sb_canServe 18 = .ok (.invokevirtual 102, 3) := by decide +kernel
theorem d_Sb_canServe_21 : decode b_Sb_canServe 21 = .ok (.ifCond .ne 5, 3) := by decide +kernel
theorem d_Sb_canServe_24 : decode b_Sb_canServe 24 = .ok (.iconst 0, 1) := by decide +kernel
theorem d_Sb_canServe_25 : decode b_Sb_canServe 25 = .ok (.ireturn, 1) := by decide +kernel
theorem d_Sb_canServe_26 : decode b_Sb_canServe 26 = .ok (.iinc 3 1, 3) := by decide +kernel
theorem d_Sb_canServe_29 : decode b_Sb_canServe 29 = .ok (.goto (-27), 3) := by decide +kernel
theorem d_Sb_canServe_32 : decode b_Sb_canServe 32 = .ok (.iconst 1, 1) := by decide +kernel
theorem d_Sb_canServe_33 : decode b_Sb_canServe 33 = .ok (.ireturn, 1) := by decide +kernel
theorem d_Sb_stateAfter_0 : decode b_Sb_stateAfter 0 = .ok (.aload_n 0, 1) := by decide +kernel
theorem d_Sb_stateAfter_1 : decode b_Sb_stateAfter 1 = .ok (.getfield 15, 3) := by decide +kernel
theorem d_Sb_stateAfter_4 : decode b_Sb_stateAfter 4 = .ok (.iload_n 2, 1) := by decide +kernel
theorem d_Sb_stateAfter_5 : decode b_Sb_stateAfter 5 = .ok (.iaload, 1) := by decide +kernel
theorem d_Sb_stateAfter_6 : decode b_Sb_stateAfter 6 = .ok (.aload_n 0, 1) := by decide +kernel
theorem d_Sb_stateAfter_7 : decode b_Sb_stateAfter 7 = .ok (.iload_n 1, 1) := by decide +kernel
theorem d_Sb_stateAfter_8 : decode b_Sb_stateAfter 8 = .ok (.iload_n 2, 1) := by decide +kernel
theorem d_Sb_stateAfter_9 : decode b_Sb_stateAfter 9 = .ok (.invokevirtual 102, 3) := by decide +kernel
theorem d_Sb_stateAfter_12 : decode b_Sb_stateAfter 12 = .ok (.isub, 1) := by decide +kernel
theorem d_Sb_stateAfter_13 : decode b_Sb_stateAfter 13 = .ok (.istore_n 3, 1) := by decide +kernel
theorem d_Sb_stateAfter_14 : decode b_Sb_stateAfter 14 = .ok (.iload_n 1, 1) := by decide +kernel
theorem d_Sb_stateAfter_15 : decode b_Sb_stateAfter 15 = .ok (.aload_n 0, 1) := by decide +kernel
theorem d_Sb_stateAfter_16 : decode b_Sb_stateAfter 16 = .ok (.getfield 28, 3) := by decide +kernel
theorem d_Sb_stateAfter_19 : decode b_Sb_stateAfter 19 = .ok (.isub, 1) := by decide +kernel
theorem d_Sb_stateAfter_20 : decode b_Sb_stateAfter 20 = .ok (.aload_n 0, 1) := by decide +kernel
theorem d_Sb_stateAfter_21 : decode b_Sb_stateAfter 21 = .ok (.getfield 18, 3) := by decide +kernel
theorem d_Sb_stateAfter_24 : decode b_Sb_stateAfter 24 = .ok (.iload_n 2, 1) := by decide +kernel
theorem d_Sb_stateAfter_25 : decode b_Sb_stateAfter 25 = .ok (.iaload, 1) := by decide +kernel
theorem d_Sb_stateAfter_26 : decode b_Sb_stateAfter 26 = .ok (.iload_n 3, 1) := by decide +kernel
theorem d_Sb_stateAfter_27 : decode b_Sb_stateAfter 27 = .ok (.imul, 1) := by decide +kernel
theorem d_Sb_stateAfter_28 : decode b_Sb_stateAfter 28 = .ok (.iadd, 1) := by decide +kernel
theorem d_Sb_stateAfter_29 : decode b_Sb_stateAfter 29 = .ok (.ireturn, 1) := by decide +kernel
theorem d_Cy_copyFrom_0 : decode b_Cy_copyFrom 0 = .ok (.aload_n 0, 1) := by decide +kernel
theorem d_Cy_copyFrom_1 : decode b_Cy_copyFrom 1 = .ok (.iload_n 3, 1) := by decide +kernel
theorem d_Cy_copyFrom_2 : decode b_Cy_copyFrom 2 = .ok (.invokevirtual 22, 3) := by decide +kernel
theorem d_Cy_copyFrom_5 : decode b_Cy_copyFrom 5 = .ok (.aload_n 1, 1) := by decide +kernel
theorem d_Cy_copyFrom_6 : decode b_Cy_copyFrom 6 = .ok (.iload_n 2, 1) := by decide +kernel
theorem d_Cy_copyFrom_7 : decode b_Cy_copyFrom 7 = .ok (.aload_n 0, 1) := by decide +kernel
theorem d_Cy_copyFrom_8 : decode b_Cy_copyFrom 8 = .ok (.getfield 9, 3) := by decide +kernel
theorem d_Cy_copyFrom_11 : decode b_Cy_copyFrom 11 = .ok (.iconst 0, 1) := by decide +kernel
theorem d_Cy_copyFrom_12 : decode b_Cy_copyFrom 12 = .ok (.aload_n 0, 1) := by decide +kernel
theorem d_Cy_copyFrom_13 : decode b_Cy_copyFrom 13 = .ok (.getfield 15, 3) := by decide +kernel
theorem d_Cy_copyFrom_16 : decode b_Cy_copyFrom 16 = .ok (.invokestatic 32, 3) := by decide +kernel
theorem d_Cy_copyFrom_19 : decode b_Cy_copyFrom 19 = .ok (.return_, 1) := by decide +kernel
theorem d_Pk_letWait_0 : decode b_Pk_letWait 0 = .ok (.aload_n 0, 1) := by decide +kernel
theorem d_Pk_letWait_1 : decode b_Pk_letWait 1 = .ok (.getfield 37, 3) := by decide +kernel
theorem d_Pk_letWait_4 : decode b_Pk_letWait 4 = .ok (.iload_n 1, 1) := by decide +kernel
theorem d_Pk_letWait_5 : decode b_Pk_letWait 5 = .ok (.invokevirtual 157, 3) := by decide +kernel
theorem d_Pk_letWait_8 : decode b_Pk_letWait 8 = .ok (.aload_n 0, 1) := by decide +kernel
theorem d_Pk_letWait_9 : decode b_Pk_letWait 9 = .ok (.iconst 1, 1) := by decide +kernel
theorem d_Pk_letWait_10 : decode b_Pk_letWait 10 = .ok (.putfield 40, 3) := by decide +kernel
theorem d_Pk_letWait_13 : decode b_Pk_letWait 13 = .ok (.iload_n 1, 1) := by decide +kernel
theorem d_Pk_letWait_14 : decode b_Pk_letWait 14 = .ok (.ireturn, 1) := by decide +kernel
theorem d_Cy_setBuilder_0 : decode b_Cy_setBuilder 0 = .ok (.aload_n 0, 1) := by decide +kernel
theorem d_Cy_setBuilder_1 : decode b_Cy_setBuilder 1 = .ok (.iload_n 1, 1) := by decide +kernel
theorem d_Cy_setBuilder_2 : decode b_Cy_setBuilder 2 = .ok (.putfield 19, 3) := by decide +kernel
theorem d_Cy_setBuilder_5 : decode b_Cy_setBuilder 5 = .ok (.return_, 1) := by decide +kernel
theorem d_Lw_drop_0 : decode b_Lw_drop 0 = .ok (.aload_n 2, 1) := by decide +kernel
theorem d_Lw_drop_1 : decode b_Lw_drop 1 = .ok (.iconst 0, 1) := by decide +kernel
theorem d_Lw_drop_2 : decode b_Lw_drop 2 = .ok (.aload_n 0, 1) := by decide +kernel
theorem d_Lw_drop_3 : decode b_Lw_drop 3 = .ok (.iload_n 1, 1) := by decide +kernel
theorem d_Lw_drop_4 : decode b_Lw_drop 4 = .ok (.invokevirtual 19, 3) := by decide +kernel
theorem d_Lw_drop_7 : decode b_Lw_drop 7 = .ok (.i2l, 1) := by decide +kernel
theorem d_Lw_drop_8 : decode b_Lw_drop 8 = .ok (.lastore, 1) := by decide +kernel
theorem d_Lw_drop_9 : decode b_Lw_drop 9 = .ok (.goto 9, 3) := by decide +kernel
theorem d_Lw_drop_12 : decode b_Lw_drop 12 = .ok (.astore_n 3, 1) := by decide +kernel
theorem d_Lw_drop_13 : decode b_Lw_drop 13 = .ok (.iconst 1, 1) := by decide +kernel
theorem d_Lw_drop_14 : decode b_Lw_drop 14 = .ok (.ireturn, 1) := by decide +kernel
theorem d_Lw_drop_15 : decode b_Lw_drop 15 = .ok (.astore_n 3, 1) := by decide +kernel
theorem d_Lw_drop_16 : decode b_Lw_drop 16 = .ok (.iconst 2, 1) := by decide +kernel
theorem d_Lw_drop_17 : decode b_Lw_drop 17 = .ok (.ireturn, 1) := by decide +kernel
theorem d_Lw_drop_18 : decode b_Lw_drop 18 = .ok (.iconst 0, 1) := by decide +kernel
theorem d_Lw_drop_19 : decode b_Lw_drop 19 = .ok (.ireturn, 1) := by decide +kernel
theorem d_Pk_drop_0 : decode b_Pk_drop 0 = .ok (.aload_n 0, 1) := by decide +kernel
theorem d_Pk_drop_1 : decode b_Pk_drop 1 = .ok (.iload_n 1, 1) := by decide +kernel
theorem d_Pk_drop_2 : decode b_Pk_drop 2 = .ok (.invokevirtual 88, 3) := by decide +kernel
theorem d_Pk_drop_5 : decode b_Pk_drop 5 = .ok (.istore_n 2, 1) := by decide +kernel
theorem d_Pk_drop_6 : decode b_Pk_drop 6 = .ok (.aload_n 0, 1) := by decide +kernel
theorem d_Pk_drop_7 : decode b_Pk_drop 7 = .ok (.getfield 40, 3) := by decide +kernel
theorem d_Pk_drop_10 : decode b_Pk_drop 10 = .ok (.ifCond .eq 11, 3) := by decide +kernel
theorem d_Pk_drop_13 : decode b_Pk_drop 13 = .ok (.new 64, 3) := by decide +kernel
theorem d_Pk_drop_16 : decode b_Pk_drop 16 = .ok (.dup, 1) := by decide +kernel
theorem d_Pk_drop_17 : decode b_Pk_drop 17 = .ok (.invokespecial 66, 3) := by decide +kernel
theorem d_Pk_drop_20 : decode b_Pk_drop 20 = .ok (.athrow, 1) := by decide +kernel
theorem d_Pk_drop_21 : decode b_Pk_drop 21 = .ok (.aload_n 0, 1) := by decide +kernel
theorem d_Pk_drop_22 : decode b_Pk_drop 22 = .ok (.getfield 27, 3) := by decide +kernel
theorem d_Pk_drop_25 : decode b_Pk_drop 25 = .ok (.aload_n 0, 1) := by decide +kernel
theorem d_Pk_drop_26 : decode b_Pk_drop 26 = .ok (.getfield 23, 3) := by decide +kernel
theorem d_Pk_drop_29 : decode b_Pk_drop 29 = .ok (.invokevirtual 74, 3) := by decide +kernel
theorem d_Pk_drop_32 : decode b_Pk_drop 32 = .ok (.aload_n 0, 1) := by decide +kernel
theorem d_Pk_drop_33 : decode b_Pk_drop 33 = .ok (.getfield 27, 3) := by decide +kernel
theorem d_Pk_drop_36 : decode b_Pk_drop 36 = .ok (.iload_n 2, 1) := by decide +kernel
theorem d_Pk_drop_37 : decode b_Pk_drop 37 = .ok (.invokevirtual 91, 3) := by decide +kernel
theorem d_Pk_drop_40 : decode b_Pk_drop 40 = .ok (.aload_n 0, 1) := by decide +kernel
theorem d_Pk_drop_41 : decode b_Pk_drop 41 = .ok (.aload_n 0, 1) := by decide +kernel
theorem d_Pk_drop_42 : decode b_Pk_drop 42 = .ok (.invokevirtual 82, 3) := by decide +kernel
theorem d_Pk_drop_45 : decode b_Pk_drop 45 = .ok (.invokevirtual 85, 3) := by decide +kernel
theorem d_Pk_drop_48 : decode b_Pk_drop 48 = .ok (.ireturn, 1) := by decide +kernel
theorem d_Pk_indexOf_0 : decode b_Pk_indexOf 0 = .ok (.aload_n 0, 1) := by decide +kernel
theorem d_Pk_indexOf_1 : decode b_Pk_indexOf 1 = .ok (.getfield 23, 3) := by decide +kernel
theorem d_Pk_indexOf_4 : decode b_Pk_indexOf 4 = .ok (.iload_n 1, 1) := by decide +kernel
theorem d_Pk_indexOf_5 : decode b_Pk_indexOf 5 = .ok (.invokevirtual 57, 3) := by decide +kernel
theorem d_Pk_indexOf_8 : decode b_Pk_indexOf 8 = .ok (.istore_n 2, 1) := by decide +kernel
theorem d_Pk_indexOf_9 : decode b_Pk_indexOf 9 = .ok (.iload_n 2, 1) := by decide +kernel
theorem d_Pk_indexOf_10 : decode b_Pk_indexOf 10 = .ok (.iconst (-1), 1) := by decide +kernel
theorem d_Pk_indexOf_11 : decode b_Pk_indexOf 11 = .ok (.if_icmp .ne 11, 3) := by decide +kernel
theorem d_Pk_indexOf_14 : decode b_Pk_indexOf 14 = .ok (.new 144, 3) := by decide +kernel
theorem d_Pk_indexOf_17 : decode b_Pk_indexOf 17 = .ok (.dup, 1) := by decide +kernel
theorem d_Pk_indexOf_18 : decode b_Pk_indexOf 18 = .ok (.invokespecial 146, 3) := by decide +kernel
theorem d_Pk_indexOf_21 : decode b_Pk_indexOf 21 = .ok (.athrow, 1) := by decide +kernel
theorem d_Pk_indexOf_22 : decode b_Pk_indexOf 22 = .ok (.iload_n 2, 1) := by decide +kernel
theorem d_Pk_indexOf_23 : decode b_Pk_indexOf 23 = .ok (.ireturn, 1) := by decide +kernel
theorem d_Cl_removeAt_0 : decode b_Cl_removeAt 0 = .ok (.aload_n 0, 1) := by decide +kernel
theorem d_Cl_removeAt_1 : decode b_Cl_removeAt 1 = .ok (.dup, 1) := by decide +kernel
theorem d_Cl_removeAt_2 : decode b_Cl_removeAt 2 = .ok (.getfield 24, 3) := by decide +kernel
theorem d_Cl_removeAt_5 : decode b_Cl_removeAt 5 = .ok (.iconst 1, 1) := by decide +kernel
theorem d_Cl_removeAt_6 : decode b_Cl_removeAt 6 = .ok (.isub, 1) := by decide +kernel
theorem d_Cl_removeAt_7 : decode b_Cl_removeAt 7 = .ok (.putfield 24, 3) := by decide +kernel
theorem d_Cl_removeAt_10 : decode b_Cl_removeAt 10 = .ok (.iload_n 1, 1) := by decide +kernel
theorem d_Cl_removeAt_11 : decode b_Cl_removeAt 11 = .ok (.istore_n 2, 1) := by decide +kernel
theorem d_Cl_removeAt_12 : decode b_Cl_removeAt 12 = .ok (.iload_n 2, 1) := by decide +kernel
theorem d_Cl_removeAt_13 : decode b_Cl_removeAt 13 = .ok (.aload_n 0, 1) := by decide +kernel
theorem d_Cl_removeAt_14 : decode b_Cl_removeAt 14 = .ok (.getfield 24, 3) := by decide +kernel
theorem d_Cl_removeAt_17 : decode b_Cl_removeAt 17 = .ok (.if_icmp .ge 18, 3) := by decide +kernel
theorem d_Cl_removeAt_20 : decode b_Cl_removeAt 20 = .ok (.aload_n 0, 1) := by decide +kernel
theorem d_Cl_removeAt_21 : decode b_Cl_removeAt 21 = .ok (.iload_n 2, 1) := by decide +kernel
theorem d_Cl_removeAt_22 : decode b_Cl_removeAt 22 = .ok (.aload_n 0, 1) := by decide +kernel
theorem d_Cl_removeAt_23 : decode b_Cl_removeAt 23 = .ok (.iload_n 2, 1) := by decide +kernel
theorem d_Cl_removeAt_24 : decode b_Cl_removeAt 24 = .ok (.iconst 1, 1) := by decide +kernel
theorem d_Cl_removeAt_25 : decode b_Cl_removeAt 25 = .ok (.iadd, 1) := by decide +kernel
theorem d_Cl_removeAt_26 : decode b_Cl_removeAt 26 = .ok (.invokevirtual 34, 3) := by decide +kernel
theorem d_Cl_removeAt_29 : decode b_Cl_removeAt 29 = .ok (.iinc 2 1, 3) := by decide +kernel
theorem d_Cl_removeAt_32 : decode b_Cl_removeAt 32 = .ok (.goto (-20), 3) := by decide +kernel
theorem d_Cl_removeAt_35 : decode b_Cl_removeAt 35 = .ok (.return_, 1) := by decide +kernel
theorem d_Lw_wish_0 : decode b_Lw_wish 0 = .ok (.aload_n 0, 1) := by decide +kernel
theorem d_Lw_wish_1 : decode b_Lw_wish 1 = .ok (.iload_n 1, 1) := by decide +kernel
theorem d_Lw_wish_2 : decode b_Lw_wish 2 = .ok (.invokevirtual 25, 3) := by decide +kernel
theorem d_Lw_wish_5 : decode b_Lw_wish 5 = .ok (.goto 9, 3) := by decide +kernel
theorem d_Lw_wish_8 : decode b_Lw_wish 8 = .ok (.astore_n 2, 1) := by decide +kernel
theorem d_Lw_wish_9 : decode b_Lw_wish 9 = .ok (.iconst 1, 1) := by decide +kernel
theorem d_Lw_wish_10 : decode b_Lw_wish 10 = .ok (.ireturn, 1) := by decide +kernel
theorem d_Lw_wish_11 : decode b_Lw_wish 11 = .ok (.astore_n 2, 1) := by decide +kernel
theorem d_Lw_wish_12 : decode b_Lw_wish 12 = .ok (.iconst 2, 1) := by decide +kernel
theorem d_Lw_wish_13 : decode b_Lw_wish 13 = .ok (.ireturn, 1) := by decide +kernel
theorem d_Lw_wish_14 : decode b_Lw_wish 14 = .ok (.iconst 0, 1) := by decide +kernel
theorem d_Lw_wish_15 : decode b_Lw_wish 15 = .ok (.ireturn, 1) := by decide +kernel
theorem d_Pk_wish_0 : decode b_Pk_wish 0 = .ok (.aload_n 0, 1) := by decide +kernel
theorem d_Pk_wish_1 : decode b_Pk_wish 1 = .ok (.iload_n 1, 1) := by decide +kernel
theorem d_Pk_wish_2 : decode b_Pk_wish 2 = .ok (.invokevirtual 88, 3) := by decide +kernel
theorem d_Pk_wish_5 : decode b_Pk_wish 5 = .ok (.pop, 1) := by decide +kernel
theorem d_Pk_wish_6 : decode b_Pk_wish 6 = .ok (.aload_n 0, 1) := by decide +kernel
theorem d_Pk_wish_7 : decode b_Pk_wish 7 = .ok (.getfield 48, 3) := by decide +kernel
theorem d_Pk_wish_10 : decode b_Pk_wish 10 = .ok (.ifCond .eq 11, 3) := by decide +kernel
theorem d_Pk_wish_13 : decode b_Pk_wish 13 = .ok (.new 64, 3) := by decide +kernel
theorem d_Pk_wish_16 : decode b_Pk_wish 16 = .ok (.dup, 1) := by decide +kernel
theorem d_Pk_wish_17 : decode b_Pk_wish 17 = .ok (.invokespecial 66, 3) := by decide +kernel
theorem d_Pk_wish_20 : decode b_Pk_wish 20 = .ok (.athrow, 1) := by decide +kernel
theorem d_Pk_wish_21 : decode b_Pk_wish 21 = .ok (.aload_n 0, 1) := by decide +kernel
theorem d_Pk_wish_22 : decode b_Pk_wish 22 = .ok (.iload_n 1, 1) := by decide +kernel
