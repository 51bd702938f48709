theorem d_Md_ask_58 : decode b_Md_ask 58 = .ok (.getfield 60, 3) := by decide +kernel
theorem d_Md_ask_61 : decode b_Md_ask 61 = .ok (.bipush 10, 2) := by decide +kernel
theorem d_Md_ask_63 : decode b_Md_ask 63 = .ok (.if_icmp .ne 7, 3) := by decide +kernel
theorem d_Md_ask_66 : decode b_Md_ask 66 = .ok (.iconst 1, 1) := by decide +kernel
theorem d_Md_ask_67 : decode b_Md_ask 67 = .ok (.goto 4, 3) := by decide +kernel
theorem d_Md_ask_70 : decode b_Md_ask 70 = .ok (.iconst 0, 1) := by decide +kernel
theorem d_Md_ask_71 : decode b_Md_ask 71 = .ok (.invokevirtual 118, 3) := by decide +kernel
theorem d_Md_ask_74 : decode b_Md_ask 74 = .ok (.ifCond .eq 5, 3) := by decide +kernel
theorem d_Md_ask_77 : decode b_Md_ask 77 = .ok (.iconst 0, 1) := by decide +kernel
theorem d_Md_ask_78 : decode b_Md_ask 78 = .ok (.ireturn, 1) := by decide +kernel
theorem d_Md_ask_79 : decode b_Md_ask 79 = .ok (.aload_n 0, 1) := by decide +kernel
theorem d_Md_ask_80 : decode b_Md_ask 80 = .ok (.iconst 0, 1) := by decide +kernel
theorem d_Md_ask_81 : decode b_Md_ask 81 = .ok (.invokevirtual 122, 3) := by decide +kernel
theorem d_Md_ask_84 : decode b_Md_ask 84 = .ok (.aload_n 0, 1) := by decide +kernel
theorem d_Md_ask_85 : decode b_Md_ask 85 = .ok (.getfield 66, 3) := by decide +kernel
theorem d_Md_ask_88 : decode b_Md_ask 88 = .ok (.istore 4, 2) := by decide +kernel
theorem d_Md_ask_90 : decode b_Md_ask 90 = .ok (.iload 4, 2) := by decide +kernel
theorem d_Md_ask_92 : decode b_Md_ask 92 = .ok (.ifCond .le 54, 3) := by decide +kernel
theorem d_Md_ask_95 : decode b_Md_ask 95 = .ok (.aload_n 0, 1) := by decide +kernel
theorem d_Md_ask_96 : decode b_Md_ask 96 = .ok (.getfield 32, 3) := by decide +kernel
theorem d_Md_ask_99 : decode b_Md_ask 99 = .ok (.iload 4, 2) := by decide +kernel
theorem d_Md_ask_101 : decode b_Md_ask 101 = .ok (.iconst 1, 1) := by decide +kernel
theorem d_Md_ask_102 : decode b_Md_ask 102 = .ok (.isub, 1) := by decide +kernel
theorem d_Md_ask_103 : decode b_Md_ask 103 = .ok (.iaload, 1) := by decide +kernel
theorem d_Md_ask_104 : decode b_Md_ask 104 = .ok (.iload_n 1, 1) := by decide +kernel
theorem d_Md_ask_105 : decode b_Md_ask 105 = .ok (.if_icmp .le 41, 3) := by decide +kernel
theorem d_Md_ask_108 : decode b_Md_ask 108 = .ok (.aload_n 0, 1) := by decide +kernel
theorem d_Md_ask_109 : decode b_Md_ask 109 = .ok (.getfield 32, 3) := by decide +kernel
theorem d_Md_ask_112 : decode b_Md_ask 112 = .ok (.iload 4, 2) := by decide +kernel
theorem d_Md_ask_114 : decode b_Md_ask 114 = .ok (.aload_n 0, 1) := by decide +kernel
theorem d_Md_ask_115 : decode b_Md_ask 115 = .ok (.getfield 32, 3) := by decide +kernel
theorem d_Md_ask_118 : decode b_Md_ask 118 = .ok (.iload 4, 2) := by decide +kernel
theorem d_Md_ask_120 : decode b_Md_ask 120 = .ok (.iconst 1, 1) := by decide +kernel
theorem d_Md_ask_121 : decode b_Md_ask 121 = .ok (.isub, 1) := by decide +kernel
theorem d_Md_ask_122 : decode b_Md_ask 122 = .ok (.iaload, 1) := by decide +kernel
theorem d_Md_ask_123 : decode b_Md_ask 123 = .ok (.iastore, 1) := by decide +kernel
theorem d_Md_ask_124 : decode b_Md_ask 124 = .ok (.aload_n 0, 1) := by decide +kernel
theorem d_Md_ask_125 : decode b_Md_ask 125 = .ok (.getfield 35, 3) := by decide +kernel
theorem d_Md_ask_128 : decode b_Md_ask 128 = .ok (.iload 4, 2) := by decide +kernel
theorem d_Md_ask_130 : decode b_Md_ask 130 = .ok (.aload_n 0, 1) := by decide +kernel
theorem d_Md_ask_131 : decode b_Md_ask 131 = .ok (.getfield 35, 3) := by decide +kernel
theorem d_Md_ask_134 : decode b_Md_ask 134 = .ok (.iload 4, 2) := by decide +kernel
theorem d_Md_ask_136 : decode b_Md_ask 136 = .ok (.iconst 1, 1) := by decide +kernel
theorem d_Md_ask_137 : decode b_Md_ask 137 = .ok (.isub, 1) := by decide +kernel
theorem d_Md_ask_138 : decode b_Md_ask 138 = .ok (.iaload, 1) := by decide +kernel
theorem d_Md_ask_139 : decode b_Md_ask 139 = .ok (.iastore, 1) := by decide +kernel
theorem d_Md_ask_140 : decode b_Md_ask 140 = .ok (.iinc 4 (-1), 3) := by decide +kernel
theorem d_Md_ask_143 : decode b_Md_ask 143 = .ok (.goto (-53), 3) := by decide +kernel
theorem d_Md_ask_146 : decode b_Md_ask 146 = .ok (.aload_n 0, 1) := by decide +kernel
theorem d_Md_ask_147 : decode b_Md_ask 147 = .ok (.getfield 32, 3) := by decide +kernel
theorem d_Md_ask_150 : decode b_Md_ask 150 = .ok (.iload 4, 2) := by decide +kernel
theorem d_Md_ask_152 : decode b_Md_ask 152 = .ok (.iload_n 1, 1) := by decide +kernel
theorem d_Md_ask_153 : decode b_Md_ask 153 = .ok (.iastore, 1) := by decide +kernel
theorem d_Md_ask_154 : decode b_Md_ask 154 = .ok (.aload_n 0, 1) := by decide +kernel
theorem d_Md_ask_155 : decode b_Md_ask 155 = .ok (.getfield 35, 3) := by decide +kernel
theorem d_Md_ask_158 : decode b_Md_ask 158 = .ok (.iload 4, 2) := by decide +kernel
theorem d_Md_ask_160 : decode b_Md_ask 160 = .ok (.iload_n 2, 1) := by decide +kernel
theorem d_Md_ask_161 : decode b_Md_ask 161 = .ok (.iastore, 1) := by decide +kernel
theorem d_Md_ask_162 : decode b_Md_ask 162 = .ok (.aload_n 0, 1) := by decide +kernel
theorem d_Md_ask_163 : decode b_Md_ask 163 = .ok (.dup, 1) := by decide +kernel
theorem d_Md_ask_164 : decode b_Md_ask 164 = .ok (.getfield 66, 3) := by decide +kernel
theorem d_Md_ask_167 : decode b_Md_ask 167 = .ok (.iconst 1, 1) := by decide +kernel
theorem d_Md_ask_168 : decode b_Md_ask 168 = .ok (.iadd, 1) := by decide +kernel
theorem d_Md_ask_169 : decode b_Md_ask 169 = .ok (.putfield 66, 3) := by decide +kernel
theorem d_Md_ask_172 : decode b_Md_ask 172 = .ok (.aload_n 0, 1) := by decide +kernel
theorem d_Md_ask_173 : decode b_Md_ask 173 = .ok (.invokevirtual 125, 3) := by decide +kernel
theorem d_Md_ask_176 : decode b_Md_ask 176 = .ok (.istore 5, 2) := by decide +kernel
theorem d_Md_ask_178 : decode b_Md_ask 178 = .ok (.aload_n 0, 1) := by decide +kernel
theorem d_Md_ask_179 : decode b_Md_ask 179 = .ok (.iconst 0, 1) := by decide +kernel
theorem d_Md_ask_180 : decode b_Md_ask 180 = .ok (.iconst 0, 1) := by decide +kernel
theorem d_Md_ask_181 : decode b_Md_ask 181 = .ok (.iload 5, 2) := by decide +kernel
theorem d_Md_ask_183 : decode b_Md_ask 183 = .ok (.ifCond .ge 7, 3) := by decide +kernel
theorem d_Md_ask_186 : decode b_Md_ask 186 = .ok (.iconst 1, 1) := by decide +kernel
theorem d_Md_ask_187 : decode b_Md_ask 187 = .ok (.goto 4, 3) := by decide +kernel
theorem d_Md_ask_190 : decode b_Md_ask 190 = .ok (.iconst 0, 1) := by decide +kernel
theorem d_Md_ask_191 : decode b_Md_ask 191 = .ok (.invokevirtual 118, 3) := by decide +kernel
theorem d_Md_ask_194 : decode b_Md_ask 194 = .ok (.ifCond .eq 5, 3) := by decide +kernel
theorem d_Md_ask_197 : decode b_Md_ask 197 = .ok (.iconst 0, 1) := by decide +kernel
theorem d_Md_ask_198 : decode b_Md_ask 198 = .ok (.ireturn, 1) := by decide +kernel
theorem d_Md_ask_199 : decode b_Md_ask 199 = .ok (.aload_n 0, 1) := by decide +kernel
theorem d_Md_ask_200 : decode b_Md_ask 200 = .ok (.iload 5, 2) := by decide +kernel
theorem d_Md_ask_202 : decode b_Md_ask 202 = .ok (.putfield 29, 3) := by decide +kernel
theorem d_Md_ask_205 : decode b_Md_ask 205 = .ok (.iload 5, 2) := by decide +kernel
theorem d_Md_ask_207 : decode b_Md_ask 207 = .ok (.ireturn, 1) := by decide +kernel
theorem d_Md_in_0 : decode b_Md_in 0 = .ok (.iload_n 0, 1) := by decide +kernel
theorem d_Md_in_1 : decode b_Md_in 1 = .ok (.iload_n 1, 1) := by decide +kernel
theorem d_Md_in_2 : decode b_Md_in 2 = .ok (.if_icmp .lt 12, 3) := by decide +kernel
theorem d_Md_in_5 : decode b_Md_in 5 = .ok (.iload_n 0, 1) := by decide +kernel
theorem d_Md_in_6 : decode b_Md_in 6 = .ok (.iload_n 2, 1) := by decide +kernel
theorem d_Md_in_7 : decode b_Md_in 7 = .ok (.if_icmp .gt 7, 3) := by decide +kernel
theorem d_Md_in_10 : decode b_Md_in 10 = .ok (.iconst 1, 1) := by decide +kernel
theorem d_Md_in_11 : decode b_Md_in 11 = .ok (.goto 4, 3) := by decide +kernel
theorem d_Md_in_14 : decode b_Md_in 14 = .ok (.iconst 0, 1) := by decide +kernel
theorem d_Md_in_15 : decode b_Md_in 15 = .ok (.ireturn, 1) := by decide +kernel
theorem d_Md_find_0 : decode b_Md_find 0 = .ok (.iconst (-1), 1) := by decide +kernel
theorem d_Md_find_1 : decode b_Md_find 1 = .ok (.istore_n 2, 1) := by decide +kernel
theorem d_Md_find_2 : decode b_Md_find 2 = .ok (.iconst 0, 1) := by decide +kernel
theorem d_Md_find_3 : decode b_Md_find 3 = .ok (.istore_n 3, 1) := by decide +kernel
theorem d_Md_find_4 : decode b_Md_find 4 = .ok (.iload_n 3, 1) := by decide +kernel
theorem d_Md_find_5 : decode b_Md_find 5 = .ok (.aload_n 0, 1) := by decide +kernel
theorem d_Md_find_6 : decode b_Md_find 6 = .ok (.getfield 60, 3) := by decide +kernel
theorem d_Md_find_9 : decode b_Md_find 9 = .ok (.if_icmp .ge 25, 3) := by decide +kernel
theorem d_Md_find_12 : decode b_Md_find 12 = .ok (.aload_n 0, 1) := by decide +kernel
theorem d_Md_find_13 : decode b_Md_find 13 = .ok (.getfield 7, 3) := by decide +kernel
theorem d_Md_find_16 : decode b_Md_find 16 = .ok (.iload_n 3, 1) := by decide +kernel
theorem d_Md_find_17 : decode b_Md_find 17 = .ok (.iaload, 1) := by decide +kernel
theorem d_Md_find_18 : decode b_Md_find 18 = .ok (.iload_n 1, 1) := by decide +kernel
theorem d_Md_find_19 : decode b_Md_find 19 = .ok (.if_icmp .ne 7, 3) := by decide +kernel
theorem d_Md_find_22 : decode b_Md_find 22 = .ok (.iload_n 3, 1) := by decide +kernel
theorem d_Md_find_23 : decode b_Md_find 23 = .ok (.goto 4, 3) := by decide +kernel
theorem d_Md_find_26 : decode b_Md_find 26 = .ok (.iload_n 2, 1) := by decide +kernel
theorem d_Md_find_27 : decode b_Md_find 27 = .ok (.istore_n 2, 1) := by decide +kernel
theorem d_Md_find_28 : decode b_Md_find 28 = .ok (.iinc 3 1, 3) := by decide +kernel
theorem d_Md_find_31 : decode b_Md_find 31 = .ok (.goto (-27), 3) := by decide +kernel
theorem d_Md_find_34 : decode b_Md_find 34 = .ok (.iload_n 2, 1) := by decide +kernel
theorem d_Md_find_35 : decode b_Md_find 35 = .ok (.ireturn, 1) := by decide +kernel
theorem d_Md_refuse_0 : decode b_Md_refuse 0 = .ok (.aload_n 0, 1) := by decide +kernel
theorem d_Md_refuse_1 : decode b_Md_refuse 1 = .ok (.iload_n 1, 1) := by decide +kernel
theorem d_Md_refuse_2 : decode b_Md_refuse 2 = .ok (.ifCond .eq 7, 3) := by decide +kernel
theorem d_Md_refuse_5 : decode b_Md_refuse 5 = .ok (.iconst 1, 1) := by decide +kernel
theorem d_Md_refuse_6 : decode b_Md_refuse 6 = .ok (.goto 20, 3) := by decide +kernel
theorem d_Md_refuse_9 : decode b_Md_refuse 9 = .ok (.iload_n 2, 1) := by decide +kernel
theorem d_Md_refuse_10 : decode b_Md_refuse 10 = .ok (.ifCond .eq 7, 3) := by decide +kernel
theorem d_Md_refuse_13 : decode b_Md_refuse 13 = .ok (.iconst 2, 1) := by decide +kernel
theorem d_Md_refuse_14 : decode b_Md_refuse 14 = .ok (.goto 12, 3) := by decide +kernel
theorem d_Md_refuse_17 : decode b_Md_refuse 17 = .ok (.iload_n 3, 1) := by decide +kernel
theorem d_Md_refuse_18 : decode b_Md_refuse 18 = .ok (.ifCond .eq 7, 3) := by decide +kernel
theorem d_Md_refuse_21 : decode b_Md_refuse 21 = .ok (.iconst 3, 1) := by decide +kernel
theorem d_Md_refuse_22 : decode b_Md_refuse 22 = .ok (.goto 4, 3) := by decide +kernel
theorem d_Md_refuse_25 : decode b_Md_refuse 25 = .ok (.iconst 0, 1) := by decide +kernel
theorem d_Md_refuse_26 : decode b_Md_refuse 26 = .ok (.putfield 57, 3) := by decide +kernel
theorem d_Md_refuse_29 : decode b_Md_refuse 29 = .ok (.aload_n 0, 1) := by decide +kernel
theorem d_Md_refuse_30 : decode b_Md_refuse 30 = .ok (.getfield 57, 3) := by decide +kernel
theorem d_Md_refuse_33 : decode b_Md_refuse 33 = .ok (.ifCond .le 7, 3) := by decide +kernel
theorem d_Md_refuse_36 : decode b_Md_refuse 36 = .ok (.iconst 1, 1) := by decide +kernel
theorem d_Md_refuse_37 : decode b_Md_refuse 37 = .ok (.goto 4, 3) := by decide +kernel
theorem d_Md_refuse_40 : decode b_Md_refuse 40 = .ok (.iconst 0, 1) := by decide +kernel
theorem d_Md_refuse_41 : decode b_Md_refuse 41 = .ok (.ireturn, 1) := by decide +kernel
theorem d_Md_copySet_0 : decode b_Md_copySet 0 = .ok (.aload_n 0, 1) := by decide +kernel
theorem d_Md_copySet_1 : decode b_Md_copySet 1 = .ok (.iconst 0, 1) := by decide +kernel
theorem d_Md_copySet_2 : decode b_Md_copySet 2 = .ok (.putfield 66, 3) := by decide +kernel
theorem d_Md_copySet_5 : decode b_Md_copySet 5 = .ok (.iconst 0, 1) := by decide +kernel
theorem d_Md_copySet_6 : decode b_Md_copySet 6 = .ok (.istore_n 2, 1) := by decide +kernel
theorem d_Md_copySet_7 : decode b_Md_copySet 7 = .ok (.iload_n 2, 1) := by decide +kernel
theorem d_Md_copySet_8 : decode b_Md_copySet 8 = .ok (.aload_n 0, 1) := by decide +kernel
theorem d_Md_copySet_9 : decode b_Md_copySet 9 = .ok (.getfield 60, 3) := by decide +kernel
theorem d_Md_copySet_12 : decode b_Md_copySet 12 = .ok (.if_icmp .ge 59, 3) := by decide +kernel
theorem d_Md_copySet_15 : decode b_Md_copySet 15 = .ok (.aload_n 0, 1) := by decide +kernel
theorem d_Md_copySet_16 : decode b_Md_copySet 16 = .ok (.getfield 7, 3) := by decide +kernel
theorem d_Md_copySet_19 : decode b_Md_copySet 19 = .ok (.iload_n 2, 1) := by decide +kernel
theorem d_Md_copySet_20 : decode b_Md_copySet 20 = .ok (.iaload, 1) := by decide +kernel
theorem d_Md_copySet_21 : decode b_Md_copySet 21 = .ok (.iload_n 1, 1) := by decide +kernel
theorem d_Md_copySet_22 : decode b_Md_copySet 22 = .ok (.if_icmp .eq 43, 3) := by decide +kernel
theorem d_Md_copySet_25 : decode b_Md_copySet 25 = .ok (.aload_n 0, 1) := by decide +kernel
theorem d_Md_copySet_26 : decode b_Md_copySet 26 = .ok (.getfield 32, 3) := by decide +kernel
theorem d_Md_copySet_29 : decode b_Md_copySet 29 = .ok (.aload_n 0, 1) := by decide +kernel
theorem d_Md_copySet_30 : decode b_Md_copySet 30 = .ok (.getfield 66, 3) := by decide +kernel
theorem d_Md_copySet_33 : decode b_Md_copySet 33 = .ok (.aload_n 0, 1) := by decide +kernel
theorem d_Md_copySet_34 : decode b_Md_copySet 34 = .ok (.getfield 7, 3) := by decide +kernel
theorem d_Md_copySet_37 : decode b_Md_copySet 37 = .ok (.iload_n 2, 1) := by decide +kernel
theorem d_Md_copySet_38 : decode b_Md_copySet 38 = .ok (.iaload, 1) := by decide +kernel
theorem d_Md_copySet_39 : decode b_Md_copySet 39 = .ok (.iastore, 1) := by decide +kernel
theorem d_Md_copySet_40 : decode b_Md_copySet 40 = .ok (.aload_n 0, 1) := by decide +kernel
theorem d_Md_copySet_41 : decode b_Md_copySet 41 = .ok (.getfield 35, 3) := by decide +kernel
theorem d_Md_copySet_44 : decode b_Md_copySet 44 = .ok (.aload_n 0, 1) := by decide +kernel
theorem d_Md_copySet_45 : decode b_Md_copySet 45 = .ok (.getfield 66, 3) := by decide +kernel
theorem d_Md_copySet_48 : decode b_Md_copySet 48 = .ok (.aload_n 0, 1) := by decide +kernel
theorem d_Md_copySet_49 : decode b_Md_copySet 49 = .ok (.getfield 13, 3) := by decide +kernel
theorem d_Md_copySet_52 : decode b_Md_copySet 52 = .ok (.iload_n 2, 1) := by decide +kernel
theorem d_Md_copySet_53 : decode b_Md_copySet 53 = .ok (.iaload, 1) := by decide +kernel
theorem d_Md_copySet_54 : decode b_Md_copySet 54 = .ok (.iastore, 1) := by decide +kernel
theorem d_Md_copySet_55 : decode b_Md_copySet 55 = .ok (.aload_n 0, 1) := by decide +kernel
theorem d_Md_copySet_56 : decode b_Md_copySet 56 = .ok (.dup, 1) := by decide +kernel
theorem d_Md_copySet_57 : decode b_Md_copySet 57 = .ok (.getfield 66, 3) := by decide +kernel
theorem d_Md_copySet_60 : decode b_Md_copySet 60 = .ok (.iconst 1, 1) := by decide +kernel
theorem d_Md_copySet_61 : decode b_Md_copySet 61 = .ok (.iadd, 1) := by decide +kernel
theorem d_Md_copySet_62 : decode b_Md_copySet 62 = .ok (.putfield 66, 3) := by decide +kernel
theorem d_Md_copySet_65 : decode b_Md_copySet 65 = .ok (.iinc 2 1, 3) := by decide +kernel
theorem d_Md_copySet_68 : decode b_Md_copySet 68 = .ok (.goto (-61), 3) := by decide +kernel
theorem d_Md_copySet_71 : decode b_Md_copySet 71 = .ok (.return_, 1) := by decide +kernel
theorem d_Md_build_0 : decode b_Md_build 0 = .ok (.aload_n 0, 1) := by decide +kernel
theorem d_Md_build_1 : decode b_Md_build 1 = .ok (.iconst 1, 1) := by decide +kernel
theorem d_Md_build_2 : decode b_Md_build 2 = .ok (.invokevirtual 84, 3) := by decide +kernel
theorem d_Md_build_5 : decode b_Md_build 5 = .ok (.ifCond .eq 7, 3) := by decide +kernel
theorem d_Md_build_8 : decode b_Md_build 8 = .ok (.iconst 1, 1) := by decide +kernel
theorem d_Md_build_9 : decode b_Md_build 9 = .ok (.goto 26, 3) := by decide +kernel
theorem d_Md_build_12 : decode b_Md_build 12 = .ok (.aload_n 0, 1) := by decide +kernel
theorem d_Md_build_13 : decode b_Md_build 13 = .ok (.invokevirtual 104, 3) := by decide +kernel
theorem d_Md_build_16 : decode b_Md_build 16 = .ok (.ifCond .eq 7, 3) := by decide +kernel
theorem d_Md_build_19 : decode b_Md_build 19 = .ok (.iconst 2, 1) := by decide +kernel
theorem d_Md_build_20 : decode b_Md_build 20 = .ok (.goto 15, 3) := by decide +kernel
theorem d_Md_build_23 : decode b_Md_build 23 = .ok (.aload_n 0, 1) := by decide +kernel
theorem d_Md_build_24 : decode b_Md_build 24 = .ok (.invokevirtual 108, 3) := by decide +kernel
theorem d_Md_build_27 : decode b_Md_build 27 = .ok (.ifCond .eq 7, 3) := by decide +kernel
theorem d_Md_build_30 : decode b_Md_build 30 = .ok (.iconst 3, 1) := by decide +kernel
theorem d_Md_build_31 : decode b_Md_build 31 = .ok (.goto 4, 3) := by decide +kernel
theorem d_Md_build_34 : decode b_Md_build 34 = .ok (.iconst (-1), 1) := by decide +kernel
theorem d_Md_build_35 : decode b_Md_build 35 = .ok (.ireturn, 1) := by decide +kernel
theorem d_Md_lay_0 : decode b_Md_lay 0 = .ok (.aload_n 0, 1) := by decide +kernel
theorem d_Md_lay_1 : decode b_Md_lay 1 = .ok (.iload_n 1, 1) := by decide +kernel
theorem d_Md_lay_2 : decode b_Md_lay 2 = .ok (.invokevirtual 73, 3) := by decide +kernel
theorem d_Md_lay_5 : decode b_Md_lay 5 = .ok (.aload_n 0, 1) := by decide +kernel
theorem d_Md_lay_6 : decode b_Md_lay 6 = .ok (.aload_n 0, 1) := by decide +kernel
theorem d_Md_lay_7 : decode b_Md_lay 7 = .ok (.getfield 63, 3) := by decide +kernel
theorem d_Md_lay_10 : decode b_Md_lay 10 = .ok (.ifCond .ne 7, 3) := by decide +kernel
theorem d_Md_lay_13 : decode b_Md_lay 13 = .ok (.iconst 1, 1) := by decide +kernel
theorem d_Md_lay_14 : decode b_Md_lay 14 = .ok (.goto 14, 3) := by decide +kernel
theorem d_Md_lay_17 : decode b_Md_lay 17 = .ok (.aload_n 0, 1) := by decide +kernel
theorem d_Md_lay_18 : decode b_Md_lay 18 = .ok (.getfield 44, 3) := by decide +kernel
theorem d_Md_lay_21 : decode b_Md_lay 21 = .ok (.aload_n 0, 1) := by decide +kernel
theorem d_Md_lay_22 : decode b_Md_lay 22 = .ok (.getfield 63, 3) := by decide +kernel
theorem d_Md_lay_25 : decode b_Md_lay 25 = .ok (.iconst 1, 1) := by decide +kernel
theorem d_Md_lay_26 : decode b_Md_lay 26 = .ok (.isub, 1) := by decide +kernel
theorem d_Md_lay_27 : decode b_Md_lay 27 = .ok (.iaload, 1) := by decide +kernel
theorem d_Md_lay_28 : decode b_Md_lay 28 = .ok (.putfield 77, 3) := by decide +kernel
theorem d_Md_lay_31 : decode b_Md_lay 31 = .ok (.iconst 0, 1) := by decide +kernel
theorem d_Md_lay_32 : decode b_Md_lay 32 = .ok (.istore_n 2, 1) := by decide +kernel
theorem d_Md_lay_33 : decode b_Md_lay 33 = .ok (.iconst 0, 1) := by decide +kernel
theorem d_Md_lay_34 : decode b_Md_lay 34 = .ok (.istore_n 3, 1) := by decide +kernel
theorem d_Md_lay_35 : decode b_Md_lay 35 = .ok (.iload_n 3, 1) := by decide +kernel
theorem d_Md_lay_36 : decode b_Md_lay 36 = .ok (.aload_n 0, 1) := by decide +kernel
theorem d_Md_lay_37 : decode b_Md_lay 37 = .ok (.getfield 63, 3) := by decide +kernel
theorem d_Md_lay_40 : decode b_Md_lay 40 = .ok (.if_icmp .ge 23, 3) := by decide +kernel
theorem d_Md_lay_43 : decode b_Md_lay 43 = .ok (.iload_n 2, 1) := by decide +kernel
theorem d_Md_lay_44 : decode b_Md_lay 44 = .ok (.aload_n 0, 1) := by decide +kernel
theorem d_Md_lay_45 : decode b_Md_lay 45 = .ok (.getfield 77, 3) := by decide +kernel
theorem d_Md_lay_48 : decode b_Md_lay 48 = .ok (.aload_n 0, 1) := by decide +kernel
theorem d_Md_lay_49 : decode b_Md_lay 49 = .ok (.getfield 44, 3) := by decide +kernel
theorem d_Md_lay_52 : decode b_Md_lay 52 = .ok (.iload_n 3, 1) := by decide +kernel
theorem d_Md_lay_53 : decode b_Md_lay 53 = .ok (.iaload, 1) := by decide +kernel
theorem d_Md_lay_54 : decode b_Md_lay 54 = .ok (.idiv, 1) := by decide +kernel
theorem d_Md_lay_55 : decode b_Md_lay 55 = .ok (.iadd, 1) := by decide +kernel
theorem d_Md_lay_56 : decode b_Md_lay 56 = .ok (.istore_n 2, 1) := by decide +kernel
theorem d_Md_lay_57 : decode b_Md_lay 57 = .ok (.iinc 3 1, 3) := by decide +kernel
theorem d_Md_lay_60 : decode b_Md_lay 60 = .ok (.goto (-25), 3) := by decide +kernel
theorem d_Md_lay_63 : decode b_Md_lay 63 = .ok (.iload_n 2, 1) := by decide +kernel
theorem d_Md_lay_64 : decode b_Md_lay 64 = .ok (.aload_n 0, 1) := by decide +kernel
theorem d_Md_lay_65 : decode b_Md_lay 65 = .ok (.getfield 77, 3) := by decide +kernel
theorem d_Md_lay_68 : decode b_Md_lay 68 = .ok (.if_icmp .le 5, 3) := by decide +kernel
theorem d_Md_lay_71 : decode b_Md_lay 71 = .ok (.iconst 0, 1) := by decide +kernel
theorem d_Md_lay_72 : decode b_Md_lay 72 = .ok (.ireturn, 1) := by decide +kernel
theorem d_Md_lay_73 : decode b_Md_lay 73 = .ok (.iconst 0, 1) := by decide +kernel
theorem d_Md_lay_74 : decode b_Md_lay 74 = .ok (.istore_n 3, 1) := by decide +kernel
theorem d_Md_lay_75 : decode b_Md_lay 75 = .ok (.iload_n 3, 1) := by decide +kernel
theorem d_Md_lay_76 : decode b_Md_lay 76 = .ok (.aload_n 0, 1) := by decide +kernel
theorem d_Md_lay_77 : decode b_Md_lay 77 = .ok (.getfield 77, 3) := by decide +kernel
theorem d_Md_lay_80 : decode b_Md_lay 80 = .ok (.if_icmp .ge 16, 3) := by decide +kernel
theorem d_Md_lay_83 : decode b_Md_lay 83 = .ok (.aload_n 0, 1) := by decide +kernel
theorem d_Md_lay_84 : decode b_Md_lay 84 = .ok (.getfield 38, 3) := by decide +kernel
theorem d_Md_lay_87 : decode b_Md_lay 87 = .ok (.iload_n 3, 1) := by decide +kernel
theorem d_Md_lay_88 : decode b_Md_lay 88 = .ok (.iconst 0, 1) := by decide +kernel
theorem d_Md_lay_89 : decode b_Md_lay 89 = .ok (.iastore, 1) := by decide +kernel
theorem d_Md_lay_90 : decode b_Md_lay 90 = .ok (.iinc 3 1, 3) := by decide +kernel
theorem d_Md_lay_93 : decode b_Md_lay 93 = .ok (.goto (-18), 3) := by decide +kernel
theorem d_Md_lay_96 : decode b_Md_lay 96 = .ok (.iconst 0, 1) := by decide +kernel
theorem d_Md_lay_97 : decode b_Md_lay 97 = .ok (.istore_n 3, 1) := by decide +kernel
theorem d_Md_lay_98 : decode b_Md_lay 98 = .ok (.iload_n 3, 1) := by decide +kernel
theorem d_Md_lay_99 : decode b_Md_lay 99 = .ok (.aload_n 0, 1) := by decide +kernel
theorem d_Md_lay_100 : decode b_Md_lay 100 = .ok (.getfield 63, 3) := by decide +kernel
theorem d_Md_lay_103 : decode b_Md_lay 103 = .ok (.if_icmp .ge 73, 3) := by decide +kernel
theorem d_Md_lay_106 : decode b_Md_lay 106 = .ok (.iconst 0, 1) := by decide +kernel
theorem d_Md_lay_107 : decode b_Md_lay 107 = .ok (.istore 4, 2) := by decide +kernel
theorem d_Md_lay_109 : decode b_Md_lay 109 = .ok (.aload_n 0, 1) := by decide +kernel
theorem d_Md_lay_110 : decode b_Md_lay 110 = .ok (.getfield 38, 3) := by decide +kernel
theorem d_Md_lay_113 : decode b_Md_lay 113 = .ok (.iload 4, 2) := by decide +kernel
theorem d_Md_lay_115 : decode b_Md_lay 115 = .ok (.iaload, 1) := by decide +kernel
theorem d_Md_lay_116 : decode b_Md_lay 116 = .ok (.ifCond .eq 9, 3) := by decide +kernel
theorem d_Md_lay_119 : decode b_Md_lay 119 = .ok (.iinc 4 1, 3) := by decide +kernel
theorem d_Md_lay_122 : decode b_Md_lay 122 = .ok (.goto (-13), 3) := by decide +kernel
theorem d_Md_lay_125 : decode b_Md_lay 125 = .ok (.iload 4, 2) := by decide +kernel
theorem d_Md_lay_127 : decode b_Md_lay 127 = .ok (.istore 5, 2) := by decide +kernel
theorem d_Md_lay_129 : decode b_Md_lay 129 = .ok (.iload 5, 2) := by decide +kernel
theorem d_Md_lay_131 : decode b_Md_lay 131 = .ok (.aload_n 0, 1) := by decide +kernel
theorem d_Md_lay_132 : decode b_Md_lay 132 = .ok (.getfield 77, 3) := by decide +kernel
theorem d_Md_lay_135 : decode b_Md_lay 135 = .ok (.if_icmp .ge 35, 3) := by decide +kernel
theorem d_Md_lay_138 : decode b_Md_lay 138 = .ok (.aload_n 0, 1) := by decide +kernel
theorem d_Md_lay_139 : decode b_Md_lay 139 = .ok (.getfield 38, 3) := by decide +kernel
theorem d_Md_lay_142 : decode b_Md_lay 142 = .ok (.iload 5, 2) := by decide +kernel
theorem d_Md_lay_144 : decode b_Md_lay 144 = .ok (.aload_n 0, 1) := by decide +kernel
theorem d_Md_lay_145 : decode b_Md_lay 145 = .ok (.getfield 32, 3) := by decide +kernel
theorem d_Md_lay_148 : decode b_Md_lay 148 = .ok (.aload_n 0, 1) := by decide +kernel
theorem d_Md_lay_149 : decode b_Md_lay 149 = .ok (.getfield 41, 3) := by decide +kernel
theorem d_Md_lay_152 : decode b_Md_lay 152 = .ok (.iload_n 3, 1) := by decide +kernel
theorem d_Md_lay_153 : decode b_Md_lay 153 = .ok (.iaload, 1) := by decide +kernel
theorem d_Md_lay_154 : decode b_Md_lay 154 = .ok (.iaload, 1) := by decide +kernel
theorem d_Md_lay_155 : decode b_Md_lay 155 = .ok (.iastore, 1) := by decide +kernel
theorem d_Md_lay_156 : decode b_Md_lay 156 = .ok (.iload 5, 2) := by decide +kernel
theorem d_Md_lay_158 : decode b_Md_lay 158 = .ok (.aload_n 0, 1) := by decide +kernel
theorem d_Md_lay_159 : decode b_Md_lay 159 = .ok (.getfield 44, 3) := by decide +kernel
theorem d_Md_lay_162 : decode b_Md_lay 162 = .ok (.iload_n 3, 1) := by decide +kernel
theorem d_Md_lay_163 : decode b_Md_lay 163 = .ok (.iaload, 1) := by decide +kernel
theorem d_Md_lay_164 : decode b_Md_lay 164 = .ok (.iadd, 1) := by decide +kernel
theorem d_Md_lay_165 : decode b_Md_lay 165 = .ok (.istore 5, 2) := by decide +kernel
theorem d_Md_lay_167 : decode b_Md_lay 167 = .ok (.goto (-38), 3) := by decide +kernel
theorem d_Md_lay_170 : decode b_Md_lay 170 = .ok (.iinc 3 1, 3) := by decide +kernel
theorem d_Md_lay_173 : decode b_Md_lay 173 = .ok (.goto (-75), 3) := by decide +kernel
theorem d_Md_lay_176 : decode b_Md_lay 176 = .ok (.iconst 1, 1) := by decide +kernel
theorem d_Md_lay_177 : decode b_Md_lay 177 = .ok (.ireturn, 1) := by decide +kernel
theorem d_Md_arrange_0 : decode b_Md_arrange 0 = .ok (.aload_n 0, 1) := by decide +kernel
theorem d_Md_arrange_1 : decode b_Md_arrange 1 = .ok (.iconst 0, 1) := by decide +kernel
theorem d_Md_arrange_2 : decode b_Md_arrange 2 = .ok (.putfield 63, 3) := by decide +kernel
theorem d_Md_arrange_5 : decode b_Md_arrange 5 = .ok (.iconst 0, 1) := by decide +kernel
theorem d_Md_arrange_6 : decode b_Md_arrange 6 = .ok (.istore_n 2, 1) := by decide +kernel
theorem d_Md_arrange_7 : decode b_Md_arrange 7 = .ok (.iload_n 2, 1) := by decide +kernel
theorem d_Md_arrange_8 : decode b_Md_arrange 8 = .ok (.aload_n 0, 1) := by decide +kernel
theorem d_Md_arrange_9 : decode b_Md_arrange 9 = .ok (.getfield 66, 3) := by decide +kernel
theorem d_Md_arrange_12 : decode b_Md_arrange 12 = .ok (.if_icmp .ge 121, 3) := by decide +kernel
theorem d_Md_arrange_15 : decode b_Md_arrange 15 = .ok (.iload_n 1, 1) := by decide +kernel
theorem d_Md_arrange_16 : decode b_Md_arrange 16 = .ok (.ifCond .ne 12, 3) := by decide +kernel
theorem d_Md_arrange_19 : decode b_Md_arrange 19 = .ok (.aload_n 0, 1) := by decide +kernel
theorem d_Md_arrange_20 : decode b_Md_arrange 20 = .ok (.getfield 35, 3) := by decide +kernel
theorem d_Md_arrange_23 : decode b_Md_arrange 23 = .ok (.iload_n 2, 1) := by decide +kernel
theorem d_Md_arrange_24 : decode b_Md_arrange 24 = .ok (.iaload, 1) := by decide +kernel
theorem d_Md_arrange_25 : decode b_Md_arrange 25 = .ok (.goto 13, 3) := by decide +kernel
theorem d_Md_arrange_28 : decode b_Md_arrange 28 = .ok (.aload_n 0, 1) := by decide +kernel
theorem d_Md_arrange_29 : decode b_Md_arrange 29 = .ok (.getfield 35, 3) := by decide +kernel
theorem d_Md_arrange_32 : decode b_Md_arrange 32 = .ok (.iload_n 2, 1) := by decide +kernel
theorem d_Md_arrange_33 : decode b_Md_arrange 33 = .ok (.iaload, 1) := by decide +kernel
theorem d_Md_arrange_34 : decode b_Md_arrange 34 = .ok (.iload_n 1, 1) := by decide +kernel
theorem d_Md_arrange_35 : decode b_Md_arrange 35 = .ok (.invokestatic 69, 3) := by decide +kernel
theorem d_Md_arrange_38 : decode b_Md_arrange 38 = .ok (.istore_n 3, 1) := by decide +kernel
theorem d_Md_arrange_39 : decode b_Md_arrange 39 = .ok (.aload_n 0, 1) := by decide +kernel
theorem d_Md_arrange_40 : decode b_Md_arrange 40 = .ok (.getfield 63, 3) := by decide +kernel
theorem d_Md_arrange_43 : decode b_Md_arrange 43 = .ok (.istore 4, 2) := by decide +kernel
theorem d_Md_arrange_45 : decode b_Md_arrange 45 = .ok (.iload 4, 2) := by decide +kernel
theorem d_Md_arrange_47 : decode b_Md_arrange 47 = .ok (.ifCond .le 54, 3) := by decide +kernel
theorem d_Md_arrange_50 : decode b_Md_arrange 50 = .ok (.aload_n 0, 1) := by decide +kernel
theorem d_Md_arrange_51 : decode b_Md_arrange 51 = .ok (.getfield 44, 3) := by decide +kernel
theorem d_Md_arrange_54 : decode b_Md_arrange 54 = .ok (.iload 4, 2) := by decide +kernel
theorem d_Md_arrange_56 : decode b_Md_arrange 56 = .ok (.iconst 1, 1) := by decide +kernel
theorem d_Md_arrange_57 : decode b_Md_arrange 57 = .ok (.isub, 1) := by decide +kernel
theorem d_Md_arrange_58 : decode b_Md_arrange 58 = .ok (.iaload, 1) := by decide +kernel
theorem d_Md_arrange_59 : decode b_Md_arrange 59 = .ok (.iload_n 3, 1) := by decide +kernel
theorem d_Md_arrange_60 : decode b_Md_arrange 60 = .ok (.if_icmp .le 41, 3) := by decide +kernel
theorem d_Md_arrange_63 : decode b_Md_arrange 63 = .ok (.aload_n 0, 1) := by decide +kernel
theorem d_Md_arrange_64 : decode b_Md_arrange 64 = .ok (.getfield 44, 3) := by decide +kernel
theorem d_Md_arrange_67 : decode b_Md_arrange 67 = .ok (.iload 4, 2) := by decide +kernel
theorem d_Md_arrange_69 : decode b_Md_arrange 69 = .ok (.aload_n 0, 1) := by decide +kernel
theorem d_Md_arrange_70 : decode b_Md_arrange 70 = .ok (.getfield 44, 3) := by decide +kernel
theorem d_Md_arrange_73 : decode b_Md_arrange 73 = .ok (.iload 4, 2) := by decide +kernel
theorem d_Md_arrange_75 : decode b_Md_arrange 75 = .ok (.iconst 1, 1) := by decide +kernel
theorem d_Md_arrange_76 : decode b_Md_arrange 76 = .ok (.isub, 1) := by decide +kernel
theorem d_Md_arrange_77 : decode b_Md_arrange 77 = .ok (.iaload, 1) := by decide +kernel
theorem d_Md_arrange_78 : decode b_Md_arrange 78 = .ok (.iastore, 1) := by decide +kernel
theorem d_Md_arrange_79 : decode b_Md_arrange 79 = .ok (.aload_n 0, 1) := by decide +kernel
theorem d_Md_arrange_80 : decode b_Md_arrange 80 = .ok (.getfield 41, 3) := by decide +kernel
theorem d_Md_arrange_83 : decode b_Md_arrange 83 = .ok (.iload 4, 2) := by decide +kernel
theorem d_Md_arrange_85 : decode b_Md_arrange 85 = .ok (.aload_n 0, 1) := by decide +kernel
theorem d_Md_arrange_86 : decode b_Md_arrange 86 = .ok (.getfield 41, 3) := by decide +kernel
theorem d_Md_arrange_89 : decode b_Md_arrange 89 = .ok (.iload 4, 2) := by decide +kernel
theorem d_Md_arrange_91 : decode b_Md_arrange 91 = .ok (.iconst 1, 1) := by decide +kernel
theorem d_Md_arrange_92 : decode b_Md_arrange 92 = .ok (.isub, 1) := by decide +kernel
theorem d_Md_arrange_93 : decode b_Md_arrange 93 = .ok (.iaload, 1) := by decide +kernel
theorem d_Md_arrange_94 : decode b_Md_arrange 94 = .ok (.iastore, 1) := by decide +kernel
theorem d_Md_arrange_95 : decode b_Md_arrange 95 = .ok (.iinc 4 (-1), 3) := by decide +kernel
theorem d_Md_arrange_98 : decode b_Md_arrange 98 = .ok (.goto (-53), 3) := by decide +kernel
theorem d_Md_arrange_101 : decode b_Md_arrange 101 = .ok (.aload_n 0, 1) := by decide +kernel
theorem d_Md_arrange_102 : decode b_Md_arrange 102 = .ok (.getfield 44, 3) := by decide +kernel
theorem d_Md_arrange_105 : decode b_Md_arrange 105 = .ok (.iload 4, 2) := by decide +kernel
theorem d_Md_arrange_107 : decode b_Md_arrange 107 = .ok (.iload_n 3, 1) := by decide +kernel
theorem d_Md_arrange_108 : decode b_Md_arrange 108 = .ok (.iastore, 1) := by decide +kernel
theorem d_Md_arrange_109 : decode b_Md_arrange 109 = .ok (.aload_n 0, 1) := by decide +kernel
theorem d_Md_arrange_110 : decode b_Md_arrange 110 = .ok (.getfield 41, 3) := by decide +kernel
theorem d_Md_arrange_113 : decode b_Md_arrange 113 = .ok (.iload 4, 2) := by decide +kernel
theorem d_Md_arrange_115 : decode b_Md_arrange 115 = .ok (.iload_n 2, 1) := by decide +kernel
theorem d_Md_arrange_116 : decode b_Md_arrange 116 = .ok (.iastore, 1) := by decide +kernel
theorem d_Md_arrange_117 : decode b_Md_arrange 117 = .ok (.aload_n 0, 1) := by decide +kernel
theorem d_Md_arrange_118 : decode b_Md_arrange 118 = .ok (.dup, 1) := by decide +kernel
theorem d_Md_arrange_119 : decode b_Md_arrange 119 = .ok (.getfield 63, 3) := by decide +kernel
theorem d_Md_arrange_122 : decode b_Md_arrange 122 = .ok (.iconst 1, 1) := by decide +kernel
theorem d_Md_arrange_123 : decode b_Md_arrange 123 = .ok (.iadd, 1) := by decide +kernel
theorem d_Md_arrange_124 : decode b_Md_arrange 124 = .ok (.putfield 63, 3) := by decide +kernel
theorem d_Md_arrange_127 : decode b_Md_arrange 127 = .ok (.iinc 2 1, 3) := by decide +kernel
theorem d_Md_arrange_130 : decode b_Md_arrange 130 = .ok (.goto (-123), 3) := by decide +kernel
theorem d_Md_arrange_133 : decode b_Md_arrange 133 = .ok (.return_, 1) := by decide +kernel
theorem d_Md_round_0 : decode b_Md_round 0 = .ok (.iload_n 1, 1) := by decide +kernel
theorem d_Md_round_1 : decode b_Md_round 1 = .ok (.istore_n 2, 1) := by decide +kernel
theorem d_Md_round_2 : decode b_Md_round 2 = .ok (.iconst 2, 1) := by decide +kernel
theorem d_Md_round_3 : decode b_Md_round 3 = .ok (.iload_n 2, 1) := by decide +kernel
theorem d_Md_round_4 : decode b_Md_round 4 = .ok (.imul, 1) := by decide +kernel
theorem d_Md_round_5 : decode b_Md_round 5 = .ok (.iload_n 0, 1) := by decide +kernel
theorem d_Md_round_6 : decode b_Md_round 6 = .ok (.if_icmp .gt 10, 3) := by decide +kernel
theorem d_Md_round_9 : decode b_Md_round 9 = .ok (.iconst 2, 1) := by decide +kernel
theorem d_Md_round_10 : decode b_Md_round 10 = .ok (.iload_n 2, 1) := by decide +kernel
theorem d_Md_round_11 : decode b_Md_round 11 = .ok (.imul, 1) := by decide +kernel
theorem d_Md_round_12 : decode b_Md_round 12 = .ok (.istore_n 2, 1) := by decide +kernel
theorem d_Md_round_13 : decode b_Md_round 13 = .ok (.goto (-11), 3) := by decide +kernel
theorem d_Md_round_16 : decode b_Md_round 16 = .ok (.iload_n 2, 1) := by decide +kernel
theorem d_Md_round_17 : decode b_Md_round 17 = .ok (.ireturn, 1) := by decide +kernel
theorem d_Md_byBases_0 : decode b_Md_byBases 0 = .ok (.aload_n 0, 1) := by decide +kernel
theorem d_Md_byBases_1 : decode b_Md_byBases 1 = .ok (.invokevirtual 80, 3) := by decide +kernel
theorem d_Md_byBases_4 : decode b_Md_byBases 4 = .ok (.istore_n 1, 1) := by decide +kernel
theorem d_Md_byBases_5 : decode b_Md_byBases 5 = .ok (.iconst 3, 1) := by decide +kernel
theorem d_Md_byBases_6 : decode b_Md_byBases 6 = .ok (.istore_n 2, 1) := by decide +kernel
theorem d_Md_byBases_7 : decode b_Md_byBases 7 = .ok (.iload_n 2, 1) := by decide +kernel
theorem d_Md_byBases_8 : decode b_Md_byBases 8 = .ok (.bipush 16, 2) := by decide +kernel
theorem d_Md_byBases_10 : decode b_Md_byBases 10 = .ok (.if_icmp .ge 25, 3) := by decide +kernel
theorem d_Md_byBases_13 : decode b_Md_byBases 13 = .ok (.iload_n 2, 1) := by decide +kernel
theorem d_Md_byBases_14 : decode b_Md_byBases 14 = .ok (.iload_n 1, 1) := by decide +kernel
theorem d_Md_byBases_15 : decode b_Md_byBases 15 = .ok (.if_icmp .gt 20, 3) := by decide +kernel
