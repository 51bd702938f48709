theorem d_Md_byBases_18 : decode b_Md_byBases 18 = .ok (.aload_n 0, 1) := by decide +kernel
theorem d_Md_byBases_19 : decode b_Md_byBases 19 = .ok (.iload_n 2, 1) := by decide +kernel
theorem d_Md_byBases_20 : decode b_Md_byBases 20 = .ok (.invokevirtual 84, 3) := by decide +kernel
theorem d_Md_byBases_23 : decode b_Md_byBases 23 = .ok (.ifCond .eq 5, 3) := by decide +kernel
theorem d_Md_byBases_26 : decode b_Md_byBases 26 = .ok (.iconst 1, 1) := by decide +kernel
theorem d_Md_byBases_27 : decode b_Md_byBases 27 = .ok (.ireturn, 1) := by decide +kernel
theorem d_Md_byBases_28 : decode b_Md_byBases 28 = .ok (.iload_n 2, 1) := by decide +kernel
theorem d_Md_byBases_29 : decode b_Md_byBases 29 = .ok (.iconst 2, 1) := by decide +kernel
theorem d_Md_byBases_30 : decode b_Md_byBases 30 = .ok (.iadd, 1) := by decide +kernel
theorem d_Md_byBases_31 : decode b_Md_byBases 31 = .ok (.istore_n 2, 1) := by decide +kernel
theorem d_Md_byBases_32 : decode b_Md_byBases 32 = .ok (.goto (-25), 3) := by decide +kernel
theorem d_Md_byBases_35 : decode b_Md_byBases 35 = .ok (.iconst 0, 1) := by decide +kernel
theorem d_Md_byBases_36 : decode b_Md_byBases 36 = .ok (.ireturn, 1) := by decide +kernel
theorem d_Md_leastSpan_0 : decode b_Md_leastSpan 0 = .ok (.bipush 99, 2) := by decide +kernel
theorem d_Md_leastSpan_2 : decode b_Md_leastSpan 2 = .ok (.istore_n 1, 1) := by decide +kernel
theorem d_Md_leastSpan_3 : decode b_Md_leastSpan 3 = .ok (.iconst 0, 1) := by decide +kernel
theorem d_Md_leastSpan_4 : decode b_Md_leastSpan 4 = .ok (.istore_n 2, 1) := by decide +kernel
theorem d_Md_leastSpan_5 : decode b_Md_leastSpan 5 = .ok (.iload_n 2, 1) := by decide +kernel
theorem d_Md_leastSpan_6 : decode b_Md_leastSpan 6 = .ok (.aload_n 0, 1) := by decide +kernel
theorem d_Md_leastSpan_7 : decode b_Md_leastSpan 7 = .ok (.getfield 66, 3) := by decide +kernel
theorem d_Md_leastSpan_10 : decode b_Md_leastSpan 10 = .ok (.if_icmp .ge 30, 3) := by decide +kernel
theorem d_Md_leastSpan_13 : decode b_Md_leastSpan 13 = .ok (.aload_n 0, 1) := by decide +kernel
theorem d_Md_leastSpan_14 : decode b_Md_leastSpan 14 = .ok (.getfield 35, 3) := by decide +kernel
theorem d_Md_leastSpan_17 : decode b_Md_leastSpan 17 = .ok (.iload_n 2, 1) := by decide +kernel
theorem d_Md_leastSpan_18 : decode b_Md_leastSpan 18 = .ok (.iaload, 1) := by decide +kernel
theorem d_Md_leastSpan_19 : decode b_Md_leastSpan 19 = .ok (.iload_n 1, 1) := by decide +kernel
theorem d_Md_leastSpan_20 : decode b_Md_leastSpan 20 = .ok (.if_icmp .ge 12, 3) := by decide +kernel
theorem d_Md_leastSpan_23 : decode b_Md_leastSpan 23 = .ok (.aload_n 0, 1) := by decide +kernel
theorem d_Md_leastSpan_24 : decode b_Md_leastSpan 24 = .ok (.getfield 35, 3) := by decide +kernel
theorem d_Md_leastSpan_27 : decode b_Md_leastSpan 27 = .ok (.iload_n 2, 1) := by decide +kernel
theorem d_Md_leastSpan_28 : decode b_Md_leastSpan 28 = .ok (.iaload, 1) := by decide +kernel
theorem d_Md_leastSpan_29 : decode b_Md_leastSpan 29 = .ok (.goto 4, 3) := by decide +kernel
theorem d_Md_leastSpan_32 : decode b_Md_leastSpan 32 = .ok (.iload_n 1, 1) := by decide +kernel
theorem d_Md_leastSpan_33 : decode b_Md_leastSpan 33 = .ok (.istore_n 1, 1) := by decide +kernel
theorem d_Md_leastSpan_34 : decode b_Md_leastSpan 34 = .ok (.iinc 2 1, 3) := by decide +kernel
theorem d_Md_leastSpan_37 : decode b_Md_leastSpan 37 = .ok (.goto (-32), 3) := by decide +kernel
theorem d_Md_leastSpan_40 : decode b_Md_leastSpan 40 = .ok (.iload_n 1, 1) := by decide +kernel
theorem d_Md_leastSpan_41 : decode b_Md_leastSpan 41 = .ok (.ireturn, 1) := by decide +kernel
theorem d_Md_byStates_0 : decode b_Md_byStates 0 = .ok (.aload_n 0, 1) := by decide +kernel
theorem d_Md_byStates_1 : decode b_Md_byStates 1 = .ok (.iconst 0, 1) := by decide +kernel
theorem d_Md_byStates_2 : decode b_Md_byStates 2 = .ok (.invokevirtual 73, 3) := by decide +kernel
theorem d_Md_byStates_5 : decode b_Md_byStates 5 = .ok (.aload_n 0, 1) := by decide +kernel
theorem d_Md_byStates_6 : decode b_Md_byStates 6 = .ok (.invokevirtual 98, 3) := by decide +kernel
theorem d_Md_byStates_9 : decode b_Md_byStates 9 = .ok (.istore_n 1, 1) := by decide +kernel
theorem d_Md_byStates_10 : decode b_Md_byStates 10 = .ok (.iload_n 1, 1) := by decide +kernel
theorem d_Md_byStates_11 : decode b_Md_byStates 11 = .ok (.sipush 1500, 3) := by decide +kernel
theorem d_Md_byStates_14 : decode b_Md_byStates 14 = .ok (.if_icmp .gt 11, 3) := by decide +kernel
theorem d_Md_byStates_17 : decode b_Md_byStates 17 = .ok (.aload_n 0, 1) := by decide +kernel
theorem d_Md_byStates_18 : decode b_Md_byStates 18 = .ok (.iload_n 1, 1) := by decide +kernel
theorem d_Md_byStates_19 : decode b_Md_byStates 19 = .ok (.invokevirtual 101, 3) := by decide +kernel
theorem d_Md_byStates_22 : decode b_Md_byStates 22 = .ok (.ifCond .ne 5, 3) := by decide +kernel
theorem d_Md_byStates_25 : decode b_Md_byStates 25 = .ok (.iconst 0, 1) := by decide +kernel
theorem d_Md_byStates_26 : decode b_Md_byStates 26 = .ok (.ireturn, 1) := by decide +kernel
theorem d_Md_byStates_27 : decode b_Md_byStates 27 = .ok (.iconst 0, 1) := by decide +kernel
theorem d_Md_byStates_28 : decode b_Md_byStates 28 = .ok (.istore_n 2, 1) := by decide +kernel
theorem d_Md_byStates_29 : decode b_Md_byStates 29 = .ok (.iload_n 2, 1) := by decide +kernel
theorem d_Md_byStates_30 : decode b_Md_byStates 30 = .ok (.iload_n 1, 1) := by decide +kernel
theorem d_Md_byStates_31 : decode b_Md_byStates 31 = .ok (.if_icmp .ge 16, 3) := by decide +kernel
theorem d_Md_byStates_34 : decode b_Md_byStates 34 = .ok (.aload_n 0, 1) := by decide +kernel
theorem d_Md_byStates_35 : decode b_Md_byStates 35 = .ok (.getfield 54, 3) := by decide +kernel
theorem d_Md_byStates_38 : decode b_Md_byStates 38 = .ok (.iload_n 2, 1) := by decide +kernel
theorem d_Md_byStates_39 : decode b_Md_byStates 39 = .ok (.iconst (-1), 1) := by decide +kernel
theorem d_Md_byStates_40 : decode b_Md_byStates 40 = .ok (.iastore, 1) := by decide +kernel
theorem d_Md_byStates_41 : decode b_Md_byStates 41 = .ok (.iinc 2 1, 3) := by decide +kernel
theorem d_Md_byStates_44 : decode b_Md_byStates 44 = .ok (.goto (-15), 3) := by decide +kernel
theorem d_Md_byStates_47 : decode b_Md_byStates 47 = .ok (.iload_n 1, 1) := by decide +kernel
theorem d_Md_byStates_48 : decode b_Md_byStates 48 = .ok (.iconst 1, 1) := by decide +kernel
theorem d_Md_byStates_49 : decode b_Md_byStates 49 = .ok (.isub, 1) := by decide +kernel
theorem d_Md_byStates_50 : decode b_Md_byStates 50 = .ok (.istore_n 2, 1) := by decide +kernel
theorem d_Md_byStates_51 : decode b_Md_byStates 51 = .ok (.iconst 0, 1) := by decide +kernel
theorem d_Md_byStates_52 : decode b_Md_byStates 52 = .ok (.istore_n 3, 1) := by decide +kernel
theorem d_Md_byStates_53 : decode b_Md_byStates 53 = .ok (.aload_n 0, 1) := by decide +kernel
theorem d_Md_byStates_54 : decode b_Md_byStates 54 = .ok (.getfield 54, 3) := by decide +kernel
theorem d_Md_byStates_57 : decode b_Md_byStates 57 = .ok (.iload_n 2, 1) := by decide +kernel
theorem d_Md_byStates_58 : decode b_Md_byStates 58 = .ok (.iaload, 1) := by decide +kernel
theorem d_Md_byStates_59 : decode b_Md_byStates 59 = .ok (.ifCond .ge 49, 3) := by decide +kernel
theorem d_Md_byStates_62 : decode b_Md_byStates 62 = .ok (.aload_n 0, 1) := by decide +kernel
theorem d_Md_byStates_63 : decode b_Md_byStates 63 = .ok (.getfield 54, 3) := by decide +kernel
theorem d_Md_byStates_66 : decode b_Md_byStates 66 = .ok (.iload_n 2, 1) := by decide +kernel
theorem d_Md_byStates_67 : decode b_Md_byStates 67 = .ok (.iload_n 3, 1) := by decide +kernel
theorem d_Md_byStates_68 : decode b_Md_byStates 68 = .ok (.iastore, 1) := by decide +kernel
theorem d_Md_byStates_69 : decode b_Md_byStates 69 = .ok (.aload_n 0, 1) := by decide +kernel
theorem d_Md_byStates_70 : decode b_Md_byStates 70 = .ok (.iload_n 2, 1) := by decide +kernel
theorem d_Md_byStates_71 : decode b_Md_byStates 71 = .ok (.invokevirtual 94, 3) := by decide +kernel
theorem d_Md_byStates_74 : decode b_Md_byStates 74 = .ok (.istore 4, 2) := by decide +kernel
theorem d_Md_byStates_76 : decode b_Md_byStates 76 = .ok (.aload_n 0, 1) := by decide +kernel
theorem d_Md_byStates_77 : decode b_Md_byStates 77 = .ok (.getfield 38, 3) := by decide +kernel
theorem d_Md_byStates_80 : decode b_Md_byStates 80 = .ok (.iload_n 3, 1) := by decide +kernel
theorem d_Md_byStates_81 : decode b_Md_byStates 81 = .ok (.aload_n 0, 1) := by decide +kernel
theorem d_Md_byStates_82 : decode b_Md_byStates 82 = .ok (.getfield 32, 3) := by decide +kernel
theorem d_Md_byStates_85 : decode b_Md_byStates 85 = .ok (.aload_n 0, 1) := by decide +kernel
theorem d_Md_byStates_86 : decode b_Md_byStates 86 = .ok (.getfield 41, 3) := by decide +kernel
theorem d_Md_byStates_89 : decode b_Md_byStates 89 = .ok (.iload 4, 2) := by decide +kernel
theorem d_Md_byStates_91 : decode b_Md_byStates 91 = .ok (.iaload, 1) := by decide +kernel
theorem d_Md_byStates_92 : decode b_Md_byStates 92 = .ok (.iaload, 1) := by decide +kernel
theorem d_Md_byStates_93 : decode b_Md_byStates 93 = .ok (.iastore, 1) := by decide +kernel
theorem d_Md_byStates_94 : decode b_Md_byStates 94 = .ok (.aload_n 0, 1) := by decide +kernel
theorem d_Md_byStates_95 : decode b_Md_byStates 95 = .ok (.iload_n 2, 1) := by decide +kernel
theorem d_Md_byStates_96 : decode b_Md_byStates 96 = .ok (.iload 4, 2) := by decide +kernel
theorem d_Md_byStates_98 : decode b_Md_byStates 98 = .ok (.invokevirtual 91, 3) := by decide +kernel
theorem d_Md_byStates_101 : decode b_Md_byStates 101 = .ok (.istore_n 2, 1) := by decide +kernel
theorem d_Md_byStates_102 : decode b_Md_byStates 102 = .ok (.iinc 3 1, 3) := by decide +kernel
theorem d_Md_byStates_105 : decode b_Md_byStates 105 = .ok (.goto (-52), 3) := by decide +kernel
theorem d_Md_byStates_108 : decode b_Md_byStates 108 = .ok (.aload_n 0, 1) := by decide +kernel
theorem d_Md_byStates_109 : decode b_Md_byStates 109 = .ok (.getfield 54, 3) := by decide +kernel
theorem d_Md_byStates_112 : decode b_Md_byStates 112 = .ok (.iload_n 2, 1) := by decide +kernel
theorem d_Md_byStates_113 : decode b_Md_byStates 113 = .ok (.iaload, 1) := by decide +kernel
theorem d_Md_byStates_114 : decode b_Md_byStates 114 = .ok (.istore 4, 2) := by decide +kernel
theorem d_Md_byStates_116 : decode b_Md_byStates 116 = .ok (.aload_n 0, 1) := by decide +kernel
theorem d_Md_byStates_117 : decode b_Md_byStates 117 = .ok (.iload_n 3, 1) := by decide +kernel
theorem d_Md_byStates_118 : decode b_Md_byStates 118 = .ok (.iload 4, 2) := by decide +kernel
theorem d_Md_byStates_120 : decode b_Md_byStates 120 = .ok (.isub, 1) := by decide +kernel
theorem d_Md_byStates_121 : decode b_Md_byStates 121 = .ok (.putfield 77, 3) := by decide +kernel
theorem d_Md_byStates_124 : decode b_Md_byStates 124 = .ok (.iconst 0, 1) := by decide +kernel
theorem d_Md_byStates_125 : decode b_Md_byStates 125 = .ok (.istore 5, 2) := by decide +kernel
theorem d_Md_byStates_127 : decode b_Md_byStates 127 = .ok (.iload 5, 2) := by decide +kernel
theorem d_Md_byStates_129 : decode b_Md_byStates 129 = .ok (.aload_n 0, 1) := by decide +kernel
theorem d_Md_byStates_130 : decode b_Md_byStates 130 = .ok (.getfield 77, 3) := by decide +kernel
theorem d_Md_byStates_133 : decode b_Md_byStates 133 = .ok (.if_icmp .ge 26, 3) := by decide +kernel
theorem d_Md_byStates_136 : decode b_Md_byStates 136 = .ok (.aload_n 0, 1) := by decide +kernel
theorem d_Md_byStates_137 : decode b_Md_byStates 137 = .ok (.getfield 38, 3) := by decide +kernel
theorem d_Md_byStates_140 : decode b_Md_byStates 140 = .ok (.iload 5, 2) := by decide +kernel
theorem d_Md_byStates_142 : decode b_Md_byStates 142 = .ok (.aload_n 0, 1) := by decide +kernel
theorem d_Md_byStates_143 : decode b_Md_byStates 143 = .ok (.getfield 38, 3) := by decide +kernel
theorem d_Md_byStates_146 : decode b_Md_byStates 146 = .ok (.iload 4, 2) := by decide +kernel
theorem d_Md_byStates_148 : decode b_Md_byStates 148 = .ok (.iload 5, 2) := by decide +kernel
theorem d_Md_byStates_150 : decode b_Md_byStates 150 = .ok (.iadd, 1) := by decide +kernel
theorem d_Md_byStates_151 : decode b_Md_byStates 151 = .ok (.iaload, 1) := by decide +kernel
theorem d_Md_byStates_152 : decode b_Md_byStates 152 = .ok (.iastore, 1) := by decide +kernel
theorem d_Md_byStates_153 : decode b_Md_byStates 153 = .ok (.iinc 5 1, 3) := by decide +kernel
theorem d_Md_byStates_156 : decode b_Md_byStates 156 = .ok (.goto (-29), 3) := by decide +kernel
theorem d_Md_byStates_159 : decode b_Md_byStates 159 = .ok (.iconst 1, 1) := by decide +kernel
theorem d_Md_byStates_160 : decode b_Md_byStates 160 = .ok (.ireturn, 1) := by decide +kernel
theorem d_Md_product_0 : decode b_Md_product 0 = .ok (.aload_n 0, 1) := by decide +kernel
theorem d_Md_product_1 : decode b_Md_product 1 = .ok (.getfield 63, 3) := by decide +kernel
theorem d_Md_product_4 : decode b_Md_product 4 = .ok (.iconst 4, 1) := by decide +kernel
theorem d_Md_product_5 : decode b_Md_product 5 = .ok (.if_icmp .le 9, 3) := by decide +kernel
theorem d_Md_product_8 : decode b_Md_product 8 = .ok (.sipush 1501, 3) := by decide +kernel
theorem d_Md_product_11 : decode b_Md_product 11 = .ok (.goto 4, 3) := by decide +kernel
theorem d_Md_product_14 : decode b_Md_product 14 = .ok (.iconst 1, 1) := by decide +kernel
theorem d_Md_product_15 : decode b_Md_product 15 = .ok (.istore_n 1, 1) := by decide +kernel
theorem d_Md_product_16 : decode b_Md_product 16 = .ok (.iconst 0, 1) := by decide +kernel
theorem d_Md_product_17 : decode b_Md_product 17 = .ok (.istore_n 2, 1) := by decide +kernel
theorem d_Md_product_18 : decode b_Md_product 18 = .ok (.iload_n 2, 1) := by decide +kernel
theorem d_Md_product_19 : decode b_Md_product 19 = .ok (.aload_n 0, 1) := by decide +kernel
theorem d_Md_product_20 : decode b_Md_product 20 = .ok (.getfield 63, 3) := by decide +kernel
theorem d_Md_product_23 : decode b_Md_product 23 = .ok (.if_icmp .ge 25, 3) := by decide +kernel
theorem d_Md_product_26 : decode b_Md_product 26 = .ok (.iload_n 1, 1) := by decide +kernel
theorem d_Md_product_27 : decode b_Md_product 27 = .ok (.sipush 1500, 3) := by decide +kernel
theorem d_Md_product_30 : decode b_Md_product 30 = .ok (.if_icmp .gt 18, 3) := by decide +kernel
theorem d_Md_product_33 : decode b_Md_product 33 = .ok (.iload_n 1, 1) := by decide +kernel
theorem d_Md_product_34 : decode b_Md_product 34 = .ok (.aload_n 0, 1) := by decide +kernel
theorem d_Md_product_35 : decode b_Md_product 35 = .ok (.getfield 44, 3) := by decide +kernel
theorem d_Md_product_38 : decode b_Md_product 38 = .ok (.iload_n 2, 1) := by decide +kernel
theorem d_Md_product_39 : decode b_Md_product 39 = .ok (.iaload, 1) := by decide +kernel
theorem d_Md_product_40 : decode b_Md_product 40 = .ok (.imul, 1) := by decide +kernel
theorem d_Md_product_41 : decode b_Md_product 41 = .ok (.istore_n 1, 1) := by decide +kernel
theorem d_Md_product_42 : decode b_Md_product 42 = .ok (.iinc 2 1, 3) := by decide +kernel
theorem d_Md_product_45 : decode b_Md_product 45 = .ok (.goto (-27), 3) := by decide +kernel
theorem d_Md_product_48 : decode b_Md_product 48 = .ok (.iload_n 1, 1) := by decide +kernel
theorem d_Md_product_49 : decode b_Md_product 49 = .ok (.ireturn, 1) := by decide +kernel
theorem d_Md_isSafe_0 : decode b_Md_isSafe 0 = .ok (.iconst 0, 1) := by decide +kernel
theorem d_Md_isSafe_1 : decode b_Md_isSafe 1 = .ok (.istore_n 2, 1) := by decide +kernel
theorem d_Md_isSafe_2 : decode b_Md_isSafe 2 = .ok (.iload_n 2, 1) := by decide +kernel
theorem d_Md_isSafe_3 : decode b_Md_isSafe 3 = .ok (.iload_n 1, 1) := by decide +kernel
theorem d_Md_isSafe_4 : decode b_Md_isSafe 4 = .ok (.if_icmp .ge 16, 3) := by decide +kernel
theorem d_Md_isSafe_7 : decode b_Md_isSafe 7 = .ok (.aload_n 0, 1) := by decide +kernel
theorem d_Md_isSafe_8 : decode b_Md_isSafe 8 = .ok (.getfield 47, 3) := by decide +kernel
theorem d_Md_isSafe_11 : decode b_Md_isSafe 11 = .ok (.iload_n 2, 1) := by decide +kernel
theorem d_Md_isSafe_12 : decode b_Md_isSafe 12 = .ok (.iconst 1, 1) := by decide +kernel
theorem d_Md_isSafe_13 : decode b_Md_isSafe 13 = .ok (.bastore, 1) := by decide +kernel
theorem d_Md_isSafe_14 : decode b_Md_isSafe 14 = .ok (.iinc 2 1, 3) := by decide +kernel
theorem d_Md_isSafe_17 : decode b_Md_isSafe 17 = .ok (.goto (-15), 3) := by decide +kernel
theorem d_Md_isSafe_20 : decode b_Md_isSafe 20 = .ok (.aload_n 0, 1) := by decide +kernel
theorem d_Md_isSafe_21 : decode b_Md_isSafe 21 = .ok (.getfield 63, 3) := by decide +kernel
theorem d_Md_isSafe_24 : decode b_Md_isSafe 24 = .ok (.ifCond .le 7, 3) := by decide +kernel
theorem d_Md_isSafe_27 : decode b_Md_isSafe 27 = .ok (.iconst 1, 1) := by decide +kernel
theorem d_Md_isSafe_28 : decode b_Md_isSafe 28 = .ok (.goto 4, 3) := by decide +kernel
theorem d_Md_isSafe_31 : decode b_Md_isSafe 31 = .ok (.iconst 0, 1) := by decide +kernel
theorem d_Md_isSafe_32 : decode b_Md_isSafe 32 = .ok (.istore_n 2, 1) := by decide +kernel
theorem d_Md_isSafe_33 : decode b_Md_isSafe 33 = .ok (.iload_n 2, 1) := by decide +kernel
theorem d_Md_isSafe_34 : decode b_Md_isSafe 34 = .ok (.ifCond .eq 47, 3) := by decide +kernel
theorem d_Md_isSafe_37 : decode b_Md_isSafe 37 = .ok (.iconst 0, 1) := by decide +kernel
theorem d_Md_isSafe_38 : decode b_Md_isSafe 38 = .ok (.istore_n 2, 1) := by decide +kernel
theorem d_Md_isSafe_39 : decode b_Md_isSafe 39 = .ok (.iconst 0, 1) := by decide +kernel
theorem d_Md_isSafe_40 : decode b_Md_isSafe 40 = .ok (.istore_n 3, 1) := by decide +kernel
theorem d_Md_isSafe_41 : decode b_Md_isSafe 41 = .ok (.iload_n 3, 1) := by decide +kernel
theorem d_Md_isSafe_42 : decode b_Md_isSafe 42 = .ok (.iload_n 1, 1) := by decide +kernel
theorem d_Md_isSafe_43 : decode b_Md_isSafe 43 = .ok (.if_icmp .ge 35, 3) := by decide +kernel
theorem d_Md_isSafe_46 : decode b_Md_isSafe 46 = .ok (.aload_n 0, 1) := by decide +kernel
theorem d_Md_isSafe_47 : decode b_Md_isSafe 47 = .ok (.getfield 47, 3) := by decide +kernel
theorem d_Md_isSafe_50 : decode b_Md_isSafe 50 = .ok (.iload_n 3, 1) := by decide +kernel
theorem d_Md_isSafe_51 : decode b_Md_isSafe 51 = .ok (.baload, 1) := by decide +kernel
theorem d_Md_isSafe_52 : decode b_Md_isSafe 52 = .ok (.ifCond .eq 20, 3) := by decide +kernel
theorem d_Md_isSafe_55 : decode b_Md_isSafe 55 = .ok (.aload_n 0, 1) := by decide +kernel
theorem d_Md_isSafe_56 : decode b_Md_isSafe 56 = .ok (.iload_n 3, 1) := by decide +kernel
theorem d_Md_isSafe_57 : decode b_Md_isSafe 57 = .ok (.invokevirtual 94, 3) := by decide +kernel
theorem d_Md_isSafe_60 : decode b_Md_isSafe 60 = .ok (.ifCond .ge 12, 3) := by decide +kernel
theorem d_Md_isSafe_63 : decode b_Md_isSafe 63 = .ok (.aload_n 0, 1) := by decide +kernel
theorem d_Md_isSafe_64 : decode b_Md_isSafe 64 = .ok (.getfield 47, 3) := by decide +kernel
theorem d_Md_isSafe_67 : decode b_Md_isSafe 67 = .ok (.iload_n 3, 1) := by decide +kernel
theorem d_Md_isSafe_68 : decode b_Md_isSafe 68 = .ok (.iconst 0, 1) := by decide +kernel
theorem d_Md_isSafe_69 : decode b_Md_isSafe 69 = .ok (.bastore, 1) := by decide +kernel
theorem d_Md_isSafe_70 : decode b_Md_isSafe 70 = .ok (.iconst 1, 1) := by decide +kernel
theorem d_Md_isSafe_71 : decode b_Md_isSafe 71 = .ok (.istore_n 2, 1) := by decide +kernel
theorem d_Md_isSafe_72 : decode b_Md_isSafe 72 = .ok (.iinc 3 1, 3) := by decide +kernel
theorem d_Md_isSafe_75 : decode b_Md_isSafe 75 = .ok (.goto (-34), 3) := by decide +kernel
theorem d_Md_isSafe_78 : decode b_Md_isSafe 78 = .ok (.goto (-45), 3) := by decide +kernel
theorem d_Md_isSafe_81 : decode b_Md_isSafe 81 = .ok (.aload_n 0, 1) := by decide +kernel
theorem d_Md_isSafe_82 : decode b_Md_isSafe 82 = .ok (.getfield 47, 3) := by decide +kernel
theorem d_Md_isSafe_85 : decode b_Md_isSafe 85 = .ok (.iload_n 1, 1) := by decide +kernel
theorem d_Md_isSafe_86 : decode b_Md_isSafe 86 = .ok (.iconst 1, 1) := by decide +kernel
theorem d_Md_isSafe_87 : decode b_Md_isSafe 87 = .ok (.isub, 1) := by decide +kernel
theorem d_Md_isSafe_88 : decode b_Md_isSafe 88 = .ok (.baload, 1) := by decide +kernel
theorem d_Md_isSafe_89 : decode b_Md_isSafe 89 = .ok (.ireturn, 1) := by decide +kernel
theorem d_Md_good_0 : decode b_Md_good 0 = .ok (.iconst 0, 1) := by decide +kernel
theorem d_Md_good_1 : decode b_Md_good 1 = .ok (.istore_n 2, 1) := by decide +kernel
theorem d_Md_good_2 : decode b_Md_good 2 = .ok (.iload_n 2, 1) := by decide +kernel
theorem d_Md_good_3 : decode b_Md_good 3 = .ok (.aload_n 0, 1) := by decide +kernel
theorem d_Md_good_4 : decode b_Md_good 4 = .ok (.getfield 63, 3) := by decide +kernel
theorem d_Md_good_7 : decode b_Md_good 7 = .ok (.if_icmp .ge 31, 3) := by decide +kernel
theorem d_Md_good_10 : decode b_Md_good 10 = .ok (.aload_n 0, 1) := by decide +kernel
theorem d_Md_good_11 : decode b_Md_good 11 = .ok (.iload_n 1, 1) := by decide +kernel
theorem d_Md_good_12 : decode b_Md_good 12 = .ok (.iload_n 2, 1) := by decide +kernel
theorem d_Md_good_13 : decode b_Md_good 13 = .ok (.invokevirtual 91, 3) := by decide +kernel
theorem d_Md_good_16 : decode b_Md_good 16 = .ok (.istore_n 3, 1) := by decide +kernel
theorem d_Md_good_17 : decode b_Md_good 17 = .ok (.iload_n 3, 1) := by decide +kernel
theorem d_Md_good_18 : decode b_Md_good 18 = .ok (.ifCond .lt 14, 3) := by decide +kernel
theorem d_Md_good_21 : decode b_Md_good 21 = .ok (.aload_n 0, 1) := by decide +kernel
theorem d_Md_good_22 : decode b_Md_good 22 = .ok (.getfield 47, 3) := by decide +kernel
theorem d_Md_good_25 : decode b_Md_good 25 = .ok (.iload_n 3, 1) := by decide +kernel
theorem d_Md_good_26 : decode b_Md_good 26 = .ok (.baload, 1) := by decide +kernel
theorem d_Md_good_27 : decode b_Md_good 27 = .ok (.ifCond .eq 5, 3) := by decide +kernel
theorem d_Md_good_30 : decode b_Md_good 30 = .ok (.iload_n 2, 1) := by decide +kernel
theorem d_Md_good_31 : decode b_Md_good 31 = .ok (.ireturn, 1) := by decide +kernel
theorem d_Md_good_32 : decode b_Md_good 32 = .ok (.iinc 2 1, 3) := by decide +kernel
theorem d_Md_good_35 : decode b_Md_good 35 = .ok (.goto (-33), 3) := by decide +kernel
theorem d_Md_good_38 : decode b_Md_good 38 = .ok (.iconst (-1), 1) := by decide +kernel
theorem d_Md_good_39 : decode b_Md_good 39 = .ok (.ireturn, 1) := by decide +kernel
theorem d_Md_after_0 : decode b_Md_after 0 = .ok (.aload_n 0, 1) := by decide +kernel
theorem d_Md_after_1 : decode b_Md_after 1 = .ok (.iload_n 1, 1) := by decide +kernel
theorem d_Md_after_2 : decode b_Md_after 2 = .ok (.invokevirtual 88, 3) := by decide +kernel
theorem d_Md_after_5 : decode b_Md_after 5 = .ok (.iconst 0, 1) := by decide +kernel
theorem d_Md_after_6 : decode b_Md_after 6 = .ok (.istore_n 3, 1) := by decide +kernel
theorem d_Md_after_7 : decode b_Md_after 7 = .ok (.iconst 1, 1) := by decide +kernel
theorem d_Md_after_8 : decode b_Md_after 8 = .ok (.istore 4, 2) := by decide +kernel
theorem d_Md_after_10 : decode b_Md_after 10 = .ok (.iconst 0, 1) := by decide +kernel
theorem d_Md_after_11 : decode b_Md_after 11 = .ok (.istore 5, 2) := by decide +kernel
theorem d_Md_after_13 : decode b_Md_after 13 = .ok (.iload 5, 2) := by decide +kernel
theorem d_Md_after_15 : decode b_Md_after 15 = .ok (.aload_n 0, 1) := by decide +kernel
theorem d_Md_after_16 : decode b_Md_after 16 = .ok (.getfield 63, 3) := by decide +kernel
theorem d_Md_after_19 : decode b_Md_after 19 = .ok (.if_icmp .ge 65, 3) := by decide +kernel
theorem d_Md_after_22 : decode b_Md_after 22 = .ok (.iload 5, 2) := by decide +kernel
theorem d_Md_after_24 : decode b_Md_after 24 = .ok (.iload_n 2, 1) := by decide +kernel
theorem d_Md_after_25 : decode b_Md_after 25 = .ok (.if_icmp .ne 13, 3) := by decide +kernel
theorem d_Md_after_28 : decode b_Md_after 28 = .ok (.aload_n 0, 1) := by decide +kernel
theorem d_Md_after_29 : decode b_Md_after 29 = .ok (.getfield 44, 3) := by decide +kernel
theorem d_Md_after_32 : decode b_Md_after 32 = .ok (.iload 5, 2) := by decide +kernel
theorem d_Md_after_34 : decode b_Md_after 34 = .ok (.iaload, 1) := by decide +kernel
theorem d_Md_after_35 : decode b_Md_after 35 = .ok (.goto 12, 3) := by decide +kernel
theorem d_Md_after_38 : decode b_Md_after 38 = .ok (.aload_n 0, 1) := by decide +kernel
theorem d_Md_after_39 : decode b_Md_after 39 = .ok (.getfield 51, 3) := by decide +kernel
theorem d_Md_after_42 : decode b_Md_after 42 = .ok (.iload 5, 2) := by decide +kernel
theorem d_Md_after_44 : decode b_Md_after 44 = .ok (.iaload, 1) := by decide +kernel
theorem d_Md_after_45 : decode b_Md_after 45 = .ok (.iconst 1, 1) := by decide +kernel
theorem d_Md_after_46 : decode b_Md_after 46 = .ok (.isub, 1) := by decide +kernel
theorem d_Md_after_47 : decode b_Md_after 47 = .ok (.istore 6, 2) := by decide +kernel
theorem d_Md_after_49 : decode b_Md_after 49 = .ok (.iload 6, 2) := by decide +kernel
theorem d_Md_after_51 : decode b_Md_after 51 = .ok (.ifCond .ne 5, 3) := by decide +kernel
theorem d_Md_after_54 : decode b_Md_after 54 = .ok (.iconst (-1), 1) := by decide +kernel
theorem d_Md_after_55 : decode b_Md_after 55 = .ok (.ireturn, 1) := by decide +kernel
theorem d_Md_after_56 : decode b_Md_after 56 = .ok (.iload_n 3, 1) := by decide +kernel
theorem d_Md_after_57 : decode b_Md_after 57 = .ok (.iload 6, 2) := by decide +kernel
theorem d_Md_after_59 : decode b_Md_after 59 = .ok (.iconst 1, 1) := by decide +kernel
theorem d_Md_after_60 : decode b_Md_after 60 = .ok (.isub, 1) := by decide +kernel
theorem d_Md_after_61 : decode b_Md_after 61 = .ok (.iload 4, 2) := by decide +kernel
theorem d_Md_after_63 : decode b_Md_after 63 = .ok (.imul, 1) := by decide +kernel
theorem d_Md_after_64 : decode b_Md_after 64 = .ok (.iadd, 1) := by decide +kernel
theorem d_Md_after_65 : decode b_Md_after 65 = .ok (.istore_n 3, 1) := by decide +kernel
theorem d_Md_after_66 : decode b_Md_after 66 = .ok (.iload 4, 2) := by decide +kernel
theorem d_Md_after_68 : decode b_Md_after 68 = .ok (.aload_n 0, 1) := by decide +kernel
theorem d_Md_after_69 : decode b_Md_after 69 = .ok (.getfield 44, 3) := by decide +kernel
theorem d_Md_after_72 : decode b_Md_after 72 = .ok (.iload 5, 2) := by decide +kernel
theorem d_Md_after_74 : decode b_Md_after 74 = .ok (.iaload, 1) := by decide +kernel
theorem d_Md_after_75 : decode b_Md_after 75 = .ok (.imul, 1) := by decide +kernel
theorem d_Md_after_76 : decode b_Md_after 76 = .ok (.istore 4, 2) := by decide +kernel
theorem d_Md_after_78 : decode b_Md_after 78 = .ok (.iinc 5 1, 3) := by decide +kernel
theorem d_Md_after_81 : decode b_Md_after 81 = .ok (.goto (-68), 3) := by decide +kernel
theorem d_Md_after_84 : decode b_Md_after 84 = .ok (.iload_n 3, 1) := by decide +kernel
theorem d_Md_after_85 : decode b_Md_after 85 = .ok (.ireturn, 1) := by decide +kernel
theorem d_Md_open_0 : decode b_Md_open 0 = .ok (.iload_n 1, 1) := by decide +kernel
theorem d_Md_open_1 : decode b_Md_open 1 = .ok (.istore_n 2, 1) := by decide +kernel
theorem d_Md_open_2 : decode b_Md_open 2 = .ok (.iconst 0, 1) := by decide +kernel
theorem d_Md_open_3 : decode b_Md_open 3 = .ok (.istore_n 3, 1) := by decide +kernel
theorem d_Md_open_4 : decode b_Md_open 4 = .ok (.iload_n 3, 1) := by decide +kernel
theorem d_Md_open_5 : decode b_Md_open 5 = .ok (.aload_n 0, 1) := by decide +kernel
theorem d_Md_open_6 : decode b_Md_open 6 = .ok (.getfield 63, 3) := by decide +kernel
theorem d_Md_open_9 : decode b_Md_open 9 = .ok (.if_icmp .ge 34, 3) := by decide +kernel
theorem d_Md_open_12 : decode b_Md_open 12 = .ok (.aload_n 0, 1) := by decide +kernel
theorem d_Md_open_13 : decode b_Md_open 13 = .ok (.getfield 51, 3) := by decide +kernel
theorem d_Md_open_16 : decode b_Md_open 16 = .ok (.iload_n 3, 1) := by decide +kernel
theorem d_Md_open_17 : decode b_Md_open 17 = .ok (.iload_n 2, 1) := by decide +kernel
theorem d_Md_open_18 : decode b_Md_open 18 = .ok (.aload_n 0, 1) := by decide +kernel
theorem d_Md_open_19 : decode b_Md_open 19 = .ok (.getfield 44, 3) := by decide +kernel
theorem d_Md_open_22 : decode b_Md_open 22 = .ok (.iload_n 3, 1) := by decide +kernel
theorem d_Md_open_23 : decode b_Md_open 23 = .ok (.iaload, 1) := by decide +kernel
theorem d_Md_open_24 : decode b_Md_open 24 = .ok (.irem, 1) := by decide +kernel
theorem d_Md_open_25 : decode b_Md_open 25 = .ok (.iconst 1, 1) := by decide +kernel
theorem d_Md_open_26 : decode b_Md_open 26 = .ok (.iadd, 1) := by decide +kernel
theorem d_Md_open_27 : decode b_Md_open 27 = .ok (.iastore, 1) := by decide +kernel
theorem d_Md_open_28 : decode b_Md_open 28 = .ok (.iload_n 2, 1) := by decide +kernel
theorem d_Md_open_29 : decode b_Md_open 29 = .ok (.aload_n 0, 1) := by decide +kernel
theorem d_Md_open_30 : decode b_Md_open 30 = .ok (.getfield 44, 3) := by decide +kernel
theorem d_Md_open_33 : decode b_Md_open 33 = .ok (.iload_n 3, 1) := by decide +kernel
theorem d_Md_open_34 : decode b_Md_open 34 = .ok (.iaload, 1) := by decide +kernel
theorem d_Md_open_35 : decode b_Md_open 35 = .ok (.idiv, 1) := by decide +kernel
theorem d_Md_open_36 : decode b_Md_open 36 = .ok (.istore_n 2, 1) := by decide +kernel
theorem d_Md_open_37 : decode b_Md_open 37 = .ok (.iinc 3 1, 3) := by decide +kernel
theorem d_Md_open_40 : decode b_Md_open 40 = .ok (.goto (-36), 3) := by decide +kernel
theorem d_Md_open_43 : decode b_Md_open 43 = .ok (.return_, 1) := by decide +kernel
theorem d_Md_drop_0 : decode b_Md_drop 0 = .ok (.aload_n 0, 1) := by decide +kernel
theorem d_Md_drop_1 : decode b_Md_drop 1 = .ok (.aload_n 0, 1) := by decide +kernel
theorem d_Md_drop_2 : decode b_Md_drop 2 = .ok (.iload_n 1, 1) := by decide +kernel
theorem d_Md_drop_3 : decode b_Md_drop 3 = .ok (.invokevirtual 115, 3) := by decide +kernel
theorem d_Md_drop_6 : decode b_Md_drop 6 = .ok (.ifCond .ge 7, 3) := by decide +kernel
theorem d_Md_drop_9 : decode b_Md_drop 9 = .ok (.iconst 1, 1) := by decide +kernel
theorem d_Md_drop_10 : decode b_Md_drop 10 = .ok (.goto 4, 3) := by decide +kernel
theorem d_Md_drop_13 : decode b_Md_drop 13 = .ok (.iconst 0, 1) := by decide +kernel
theorem d_Md_drop_14 : decode b_Md_drop 14 = .ok (.aload_n 0, 1) := by decide +kernel
theorem d_Md_drop_15 : decode b_Md_drop 15 = .ok (.getfield 29, 3) := by decide +kernel
theorem d_Md_drop_18 : decode b_Md_drop 18 = .ok (.ifCond .le 7, 3) := by decide +kernel
theorem d_Md_drop_21 : decode b_Md_drop 21 = .ok (.iconst 1, 1) := by decide +kernel
theorem d_Md_drop_22 : decode b_Md_drop 22 = .ok (.goto 4, 3) := by decide +kernel
theorem d_Md_drop_25 : decode b_Md_drop 25 = .ok (.iconst 0, 1) := by decide +kernel
theorem d_Md_drop_26 : decode b_Md_drop 26 = .ok (.iconst 0, 1) := by decide +kernel
theorem d_Md_drop_27 : decode b_Md_drop 27 = .ok (.invokevirtual 118, 3) := by decide +kernel
theorem d_Md_drop_30 : decode b_Md_drop 30 = .ok (.ifCond .eq 5, 3) := by decide +kernel
theorem d_Md_drop_33 : decode b_Md_drop 33 = .ok (.iconst 0, 1) := by decide +kernel
theorem d_Md_drop_34 : decode b_Md_drop 34 = .ok (.ireturn, 1) := by decide +kernel
theorem d_Md_drop_35 : decode b_Md_drop 35 = .ok (.aload_n 0, 1) := by decide +kernel
theorem d_Md_drop_36 : decode b_Md_drop 36 = .ok (.iload_n 1, 1) := by decide +kernel
theorem d_Md_drop_37 : decode b_Md_drop 37 = .ok (.invokevirtual 122, 3) := by decide +kernel
theorem d_Md_drop_40 : decode b_Md_drop 40 = .ok (.aload_n 0, 1) := by decide +kernel
theorem d_Md_drop_41 : decode b_Md_drop 41 = .ok (.aload_n 0, 1) := by decide +kernel
theorem d_Md_drop_42 : decode b_Md_drop 42 = .ok (.invokevirtual 125, 3) := by decide +kernel
theorem d_Md_drop_45 : decode b_Md_drop 45 = .ok (.putfield 29, 3) := by decide +kernel
theorem d_Md_drop_48 : decode b_Md_drop 48 = .ok (.aload_n 0, 1) := by decide +kernel
theorem d_Md_drop_49 : decode b_Md_drop 49 = .ok (.getfield 29, 3) := by decide +kernel
theorem d_Md_drop_52 : decode b_Md_drop 52 = .ok (.ireturn, 1) := by decide +kernel
theorem d_Md_slot_0 : decode b_Md_slot 0 = .ok (.aload_n 0, 1) := by decide +kernel
theorem d_Md_slot_1 : decode b_Md_slot 1 = .ok (.iconst 0, 1) := by decide +kernel
theorem d_Md_slot_2 : decode b_Md_slot 2 = .ok (.putfield 57, 3) := by decide +kernel
theorem d_Md_slot_5 : decode b_Md_slot 5 = .ok (.aload_n 0, 1) := by decide +kernel
theorem d_Md_slot_6 : decode b_Md_slot 6 = .ok (.getfield 29, 3) := by decide +kernel
theorem d_Md_slot_9 : decode b_Md_slot 9 = .ok (.ifCond .le 7, 3) := by decide +kernel
theorem d_Md_slot_12 : decode b_Md_slot 12 = .ok (.aload_n 0, 1) := by decide +kernel
theorem d_Md_slot_13 : decode b_Md_slot 13 = .ok (.invokevirtual 146, 3) := by decide +kernel
theorem d_Md_slot_16 : decode b_Md_slot 16 = .ok (.aload_n 0, 1) := by decide +kernel
theorem d_Md_slot_17 : decode b_Md_slot 17 = .ok (.getfield 26, 3) := by decide +kernel
theorem d_Md_slot_20 : decode b_Md_slot 20 = .ok (.aload_n 0, 1) := by decide +kernel
theorem d_Md_slot_21 : decode b_Md_slot 21 = .ok (.getfield 131, 3) := by decide +kernel
theorem d_Md_slot_24 : decode b_Md_slot 24 = .ok (.iaload, 1) := by decide +kernel
theorem d_Md_slot_25 : decode b_Md_slot 25 = .ok (.istore_n 1, 1) := by decide +kernel
theorem d_Md_slot_26 : decode b_Md_slot 26 = .ok (.iload_n 1, 1) := by decide +kernel
theorem d_Md_slot_27 : decode b_Md_slot 27 = .ok (.ifCond .ne 13, 3) := by decide +kernel
theorem d_Md_slot_30 : decode b_Md_slot 30 = .ok (.aload_n 0, 1) := by decide +kernel
theorem d_Md_slot_31 : decode b_Md_slot 31 = .ok (.getfield 128, 3) := by decide +kernel
theorem d_Md_slot_34 : decode b_Md_slot 34 = .ok (.istore_n 1, 1) := by decide +kernel
theorem d_Md_slot_35 : decode b_Md_slot 35 = .ok (.aload_n 0, 1) := by decide +kernel
theorem d_Md_slot_36 : decode b_Md_slot 36 = .ok (.iconst 0, 1) := by decide +kernel
theorem d_Md_slot_37 : decode b_Md_slot 37 = .ok (.putfield 128, 3) := by decide +kernel
theorem d_Md_slot_40 : decode b_Md_slot 40 = .ok (.aload_n 0, 1) := by decide +kernel
theorem d_Md_slot_41 : decode b_Md_slot 41 = .ok (.aload_n 0, 1) := by decide +kernel
theorem d_Md_slot_42 : decode b_Md_slot 42 = .ok (.getfield 131, 3) := by decide +kernel
theorem d_Md_slot_45 : decode b_Md_slot 45 = .ok (.iconst 1, 1) := by decide +kernel
theorem d_Md_slot_46 : decode b_Md_slot 46 = .ok (.iadd, 1) := by decide +kernel
theorem d_Md_slot_47 : decode b_Md_slot 47 = .ok (.aload_n 0, 1) := by decide +kernel
theorem d_Md_slot_48 : decode b_Md_slot 48 = .ok (.getfield 22, 3) := by decide +kernel
theorem d_Md_slot_51 : decode b_Md_slot 51 = .ok (.irem, 1) := by decide +kernel
theorem d_Md_slot_52 : decode b_Md_slot 52 = .ok (.putfield 131, 3) := by decide +kernel
theorem d_Md_slot_55 : decode b_Md_slot 55 = .ok (.aload_n 0, 1) := by decide +kernel
theorem d_Md_slot_56 : decode b_Md_slot 56 = .ok (.dup, 1) := by decide +kernel
theorem d_Md_slot_57 : decode b_Md_slot 57 = .ok (.getfield 149, 3) := by decide +kernel
theorem d_Md_slot_60 : decode b_Md_slot 60 = .ok (.iconst 1, 1) := by decide +kernel
theorem d_Md_slot_61 : decode b_Md_slot 61 = .ok (.iadd, 1) := by decide +kernel
theorem d_Md_slot_62 : decode b_Md_slot 62 = .ok (.putfield 149, 3) := by decide +kernel
theorem d_Md_slot_65 : decode b_Md_slot 65 = .ok (.iconst 0, 1) := by decide +kernel
theorem d_Md_slot_66 : decode b_Md_slot 66 = .ok (.istore_n 2, 1) := by decide +kernel
theorem d_Md_slot_67 : decode b_Md_slot 67 = .ok (.iload_n 2, 1) := by decide +kernel
theorem d_Md_slot_68 : decode b_Md_slot 68 = .ok (.aload_n 0, 1) := by decide +kernel
theorem d_Md_slot_69 : decode b_Md_slot 69 = .ok (.getfield 60, 3) := by decide +kernel
theorem d_Md_slot_72 : decode b_Md_slot 72 = .ok (.if_icmp .ge 73, 3) := by decide +kernel
theorem d_Md_slot_75 : decode b_Md_slot 75 = .ok (.aload_n 0, 1) := by decide +kernel
theorem d_Md_slot_76 : decode b_Md_slot 76 = .ok (.getfield 16, 3) := by decide +kernel
theorem d_Md_slot_79 : decode b_Md_slot 79 = .ok (.iload_n 2, 1) := by decide +kernel
theorem d_Md_slot_80 : decode b_Md_slot 80 = .ok (.aload_n 0, 1) := by decide +kernel
theorem d_Md_slot_81 : decode b_Md_slot 81 = .ok (.getfield 7, 3) := by decide +kernel
theorem d_Md_slot_84 : decode b_Md_slot 84 = .ok (.iload_n 2, 1) := by decide +kernel
theorem d_Md_slot_85 : decode b_Md_slot 85 = .ok (.iaload, 1) := by decide +kernel
theorem d_Md_slot_86 : decode b_Md_slot 86 = .ok (.iload_n 1, 1) := by decide +kernel
