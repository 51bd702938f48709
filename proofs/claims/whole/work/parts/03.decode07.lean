theorem d_Md_slot_87 : decode b_Md_slot 87 = .ok (.if_icmp .ne 7, 3) := by decide +kernel
theorem d_Md_slot_90 : decode b_Md_slot 90 = .ok (.iconst 0, 1) := by decide +kernel
theorem d_Md_slot_91 : decode b_Md_slot 91 = .ok (.goto 11, 3) := by decide +kernel
theorem d_Md_slot_94 : decode b_Md_slot 94 = .ok (.aload_n 0, 1) := by decide +kernel
theorem d_Md_slot_95 : decode b_Md_slot 95 = .ok (.getfield 16, 3) := by decide +kernel
theorem d_Md_slot_98 : decode b_Md_slot 98 = .ok (.iload_n 2, 1) := by decide +kernel
theorem d_Md_slot_99 : decode b_Md_slot 99 = .ok (.iaload, 1) := by decide +kernel
theorem d_Md_slot_100 : decode b_Md_slot 100 = .ok (.iconst 1, 1) := by decide +kernel
theorem d_Md_slot_101 : decode b_Md_slot 101 = .ok (.iadd, 1) := by decide +kernel
theorem d_Md_slot_102 : decode b_Md_slot 102 = .ok (.iastore, 1) := by decide +kernel
theorem d_Md_slot_103 : decode b_Md_slot 103 = .ok (.aload_n 0, 1) := by decide +kernel
theorem d_Md_slot_104 : decode b_Md_slot 104 = .ok (.getfield 19, 3) := by decide +kernel
theorem d_Md_slot_107 : decode b_Md_slot 107 = .ok (.iload_n 2, 1) := by decide +kernel
theorem d_Md_slot_108 : decode b_Md_slot 108 = .ok (.aload_n 0, 1) := by decide +kernel
theorem d_Md_slot_109 : decode b_Md_slot 109 = .ok (.getfield 16, 3) := by decide +kernel
theorem d_Md_slot_112 : decode b_Md_slot 112 = .ok (.iload_n 2, 1) := by decide +kernel
theorem d_Md_slot_113 : decode b_Md_slot 113 = .ok (.iaload, 1) := by decide +kernel
theorem d_Md_slot_114 : decode b_Md_slot 114 = .ok (.aload_n 0, 1) := by decide +kernel
theorem d_Md_slot_115 : decode b_Md_slot 115 = .ok (.getfield 19, 3) := by decide +kernel
theorem d_Md_slot_118 : decode b_Md_slot 118 = .ok (.iload_n 2, 1) := by decide +kernel
theorem d_Md_slot_119 : decode b_Md_slot 119 = .ok (.iaload, 1) := by decide +kernel
theorem d_Md_slot_120 : decode b_Md_slot 120 = .ok (.if_icmp .le 12, 3) := by decide +kernel
theorem d_Md_slot_123 : decode b_Md_slot 123 = .ok (.aload_n 0, 1) := by decide +kernel
theorem d_Md_slot_124 : decode b_Md_slot 124 = .ok (.getfield 16, 3) := by decide +kernel
theorem d_Md_slot_127 : decode b_Md_slot 127 = .ok (.iload_n 2, 1) := by decide +kernel
theorem d_Md_slot_128 : decode b_Md_slot 128 = .ok (.iaload, 1) := by decide +kernel
theorem d_Md_slot_129 : decode b_Md_slot 129 = .ok (.goto 9, 3) := by decide +kernel
theorem d_Md_slot_132 : decode b_Md_slot 132 = .ok (.aload_n 0, 1) := by decide +kernel
theorem d_Md_slot_133 : decode b_Md_slot 133 = .ok (.getfield 19, 3) := by decide +kernel
theorem d_Md_slot_136 : decode b_Md_slot 136 = .ok (.iload_n 2, 1) := by decide +kernel
theorem d_Md_slot_137 : decode b_Md_slot 137 = .ok (.iaload, 1) := by decide +kernel
theorem d_Md_slot_138 : decode b_Md_slot 138 = .ok (.iastore, 1) := by decide +kernel
theorem d_Md_slot_139 : decode b_Md_slot 139 = .ok (.iinc 2 1, 3) := by decide +kernel
theorem d_Md_slot_142 : decode b_Md_slot 142 = .ok (.goto (-75), 3) := by decide +kernel
theorem d_Md_slot_145 : decode b_Md_slot 145 = .ok (.iload_n 1, 1) := by decide +kernel
theorem d_Md_slot_146 : decode b_Md_slot 146 = .ok (.ireturn, 1) := by decide +kernel
theorem d_Md_lookForSeam_0 : decode b_Md_lookForSeam 0 = .ok (.iconst 0, 1) := by decide +kernel
theorem d_Md_lookForSeam_1 : decode b_Md_lookForSeam 1 = .ok (.istore_n 1, 1) := by decide +kernel
theorem d_Md_lookForSeam_2 : decode b_Md_lookForSeam 2 = .ok (.iload_n 1, 1) := by decide +kernel
theorem d_Md_lookForSeam_3 : decode b_Md_lookForSeam 3 = .ok (.aload_n 0, 1) := by decide +kernel
theorem d_Md_lookForSeam_4 : decode b_Md_lookForSeam 4 = .ok (.getfield 77, 3) := by decide +kernel
theorem d_Md_lookForSeam_7 : decode b_Md_lookForSeam 7 = .ok (.if_icmp .ge 17, 3) := by decide +kernel
theorem d_Md_lookForSeam_10 : decode b_Md_lookForSeam 10 = .ok (.aload_n 0, 1) := by decide +kernel
theorem d_Md_lookForSeam_11 : decode b_Md_lookForSeam 11 = .ok (.iload_n 1, 1) := by decide +kernel
theorem d_Md_lookForSeam_12 : decode b_Md_lookForSeam 12 = .ok (.invokevirtual 137, 3) := by decide +kernel
theorem d_Md_lookForSeam_15 : decode b_Md_lookForSeam 15 = .ok (.ifCond .ne 9, 3) := by decide +kernel
theorem d_Md_lookForSeam_18 : decode b_Md_lookForSeam 18 = .ok (.iinc 1 1, 3) := by decide +kernel
theorem d_Md_lookForSeam_21 : decode b_Md_lookForSeam 21 = .ok (.goto (-19), 3) := by decide +kernel
theorem d_Md_lookForSeam_24 : decode b_Md_lookForSeam 24 = .ok (.iload_n 1, 1) := by decide +kernel
theorem d_Md_lookForSeam_25 : decode b_Md_lookForSeam 25 = .ok (.aload_n 0, 1) := by decide +kernel
theorem d_Md_lookForSeam_26 : decode b_Md_lookForSeam 26 = .ok (.getfield 77, 3) := by decide +kernel
theorem d_Md_lookForSeam_29 : decode b_Md_lookForSeam 29 = .ok (.if_icmp .ge 11, 3) := by decide +kernel
theorem d_Md_lookForSeam_32 : decode b_Md_lookForSeam 32 = .ok (.aload_n 0, 1) := by decide +kernel
theorem d_Md_lookForSeam_33 : decode b_Md_lookForSeam 33 = .ok (.iload_n 1, 1) := by decide +kernel
theorem d_Md_lookForSeam_34 : decode b_Md_lookForSeam 34 = .ok (.invokevirtual 140, 3) := by decide +kernel
theorem d_Md_lookForSeam_37 : decode b_Md_lookForSeam 37 = .ok (.goto 13, 3) := by decide +kernel
theorem d_Md_lookForSeam_40 : decode b_Md_lookForSeam 40 = .ok (.aload_n 0, 1) := by decide +kernel
theorem d_Md_lookForSeam_41 : decode b_Md_lookForSeam 41 = .ok (.dup, 1) := by decide +kernel
theorem d_Md_lookForSeam_42 : decode b_Md_lookForSeam 42 = .ok (.getfield 143, 3) := by decide +kernel
theorem d_Md_lookForSeam_45 : decode b_Md_lookForSeam 45 = .ok (.iconst 1, 1) := by decide +kernel
theorem d_Md_lookForSeam_46 : decode b_Md_lookForSeam 46 = .ok (.iadd, 1) := by decide +kernel
theorem d_Md_lookForSeam_47 : decode b_Md_lookForSeam 47 = .ok (.putfield 143, 3) := by decide +kernel
theorem d_Md_lookForSeam_50 : decode b_Md_lookForSeam 50 = .ok (.return_, 1) := by decide +kernel
theorem d_Md_isSeam_0 : decode b_Md_isSeam 0 = .ok (.iconst 1, 1) := by decide +kernel
theorem d_Md_isSeam_1 : decode b_Md_isSeam 1 = .ok (.istore_n 2, 1) := by decide +kernel
theorem d_Md_isSeam_2 : decode b_Md_isSeam 2 = .ok (.iconst 0, 1) := by decide +kernel
theorem d_Md_isSeam_3 : decode b_Md_isSeam 3 = .ok (.istore_n 3, 1) := by decide +kernel
theorem d_Md_isSeam_4 : decode b_Md_isSeam 4 = .ok (.iload_n 3, 1) := by decide +kernel
theorem d_Md_isSeam_5 : decode b_Md_isSeam 5 = .ok (.aload_n 0, 1) := by decide +kernel
theorem d_Md_isSeam_6 : decode b_Md_isSeam 6 = .ok (.getfield 66, 3) := by decide +kernel
theorem d_Md_isSeam_9 : decode b_Md_isSeam 9 = .ok (.if_icmp .ge 91, 3) := by decide +kernel
theorem d_Md_isSeam_12 : decode b_Md_isSeam 12 = .ok (.iconst 0, 1) := by decide +kernel
theorem d_Md_isSeam_13 : decode b_Md_isSeam 13 = .ok (.istore 4, 2) := by decide +kernel
theorem d_Md_isSeam_15 : decode b_Md_isSeam 15 = .ok (.aload_n 0, 1) := by decide +kernel
theorem d_Md_isSeam_16 : decode b_Md_isSeam 16 = .ok (.getfield 38, 3) := by decide +kernel
theorem d_Md_isSeam_19 : decode b_Md_isSeam 19 = .ok (.iload_n 1, 1) := by decide +kernel
theorem d_Md_isSeam_20 : decode b_Md_isSeam 20 = .ok (.iload 4, 2) := by decide +kernel
theorem d_Md_isSeam_22 : decode b_Md_isSeam 22 = .ok (.iadd, 1) := by decide +kernel
theorem d_Md_isSeam_23 : decode b_Md_isSeam 23 = .ok (.aload_n 0, 1) := by decide +kernel
theorem d_Md_isSeam_24 : decode b_Md_isSeam 24 = .ok (.getfield 77, 3) := by decide +kernel
theorem d_Md_isSeam_27 : decode b_Md_isSeam 27 = .ok (.irem, 1) := by decide +kernel
theorem d_Md_isSeam_28 : decode b_Md_isSeam 28 = .ok (.iaload, 1) := by decide +kernel
theorem d_Md_isSeam_29 : decode b_Md_isSeam 29 = .ok (.aload_n 0, 1) := by decide +kernel
theorem d_Md_isSeam_30 : decode b_Md_isSeam 30 = .ok (.getfield 32, 3) := by decide +kernel
theorem d_Md_isSeam_33 : decode b_Md_isSeam 33 = .ok (.iload_n 3, 1) := by decide +kernel
theorem d_Md_isSeam_34 : decode b_Md_isSeam 34 = .ok (.iaload, 1) := by decide +kernel
theorem d_Md_isSeam_35 : decode b_Md_isSeam 35 = .ok (.if_icmp .eq 9, 3) := by decide +kernel
theorem d_Md_isSeam_38 : decode b_Md_isSeam 38 = .ok (.iinc 4 1, 3) := by decide +kernel
theorem d_Md_isSeam_41 : decode b_Md_isSeam 41 = .ok (.goto (-26), 3) := by decide +kernel
theorem d_Md_isSeam_44 : decode b_Md_isSeam 44 = .ok (.aload_n 0, 1) := by decide +kernel
theorem d_Md_isSeam_45 : decode b_Md_isSeam 45 = .ok (.aload_n 0, 1) := by decide +kernel
theorem d_Md_isSeam_46 : decode b_Md_isSeam 46 = .ok (.getfield 32, 3) := by decide +kernel
theorem d_Md_isSeam_49 : decode b_Md_isSeam 49 = .ok (.iload_n 3, 1) := by decide +kernel
theorem d_Md_isSeam_50 : decode b_Md_isSeam 50 = .ok (.iaload, 1) := by decide +kernel
theorem d_Md_isSeam_51 : decode b_Md_isSeam 51 = .ok (.invokevirtual 115, 3) := by decide +kernel
theorem d_Md_isSeam_54 : decode b_Md_isSeam 54 = .ok (.istore 5, 2) := by decide +kernel
theorem d_Md_isSeam_56 : decode b_Md_isSeam 56 = .ok (.iload_n 2, 1) := by decide +kernel
theorem d_Md_isSeam_57 : decode b_Md_isSeam 57 = .ok (.ifCond .eq 35, 3) := by decide +kernel
theorem d_Md_isSeam_60 : decode b_Md_isSeam 60 = .ok (.iload 5, 2) := by decide +kernel
theorem d_Md_isSeam_62 : decode b_Md_isSeam 62 = .ok (.ifCond .ge 7, 3) := by decide +kernel
theorem d_Md_isSeam_65 : decode b_Md_isSeam 65 = .ok (.iconst 0, 1) := by decide +kernel
theorem d_Md_isSeam_66 : decode b_Md_isSeam 66 = .ok (.goto 10, 3) := by decide +kernel
theorem d_Md_isSeam_69 : decode b_Md_isSeam 69 = .ok (.aload_n 0, 1) := by decide +kernel
theorem d_Md_isSeam_70 : decode b_Md_isSeam 70 = .ok (.getfield 16, 3) := by decide +kernel
theorem d_Md_isSeam_73 : decode b_Md_isSeam 73 = .ok (.iload 5, 2) := by decide +kernel
theorem d_Md_isSeam_75 : decode b_Md_isSeam 75 = .ok (.iaload, 1) := by decide +kernel
theorem d_Md_isSeam_76 : decode b_Md_isSeam 76 = .ok (.iload 4, 2) := by decide +kernel
theorem d_Md_isSeam_78 : decode b_Md_isSeam 78 = .ok (.iadd, 1) := by decide +kernel
theorem d_Md_isSeam_79 : decode b_Md_isSeam 79 = .ok (.aload_n 0, 1) := by decide +kernel
theorem d_Md_isSeam_80 : decode b_Md_isSeam 80 = .ok (.getfield 35, 3) := by decide +kernel
theorem d_Md_isSeam_83 : decode b_Md_isSeam 83 = .ok (.iload_n 3, 1) := by decide +kernel
theorem d_Md_isSeam_84 : decode b_Md_isSeam 84 = .ok (.iaload, 1) := by decide +kernel
theorem d_Md_isSeam_85 : decode b_Md_isSeam 85 = .ok (.if_icmp .ge 7, 3) := by decide +kernel
theorem d_Md_isSeam_88 : decode b_Md_isSeam 88 = .ok (.iconst 1, 1) := by decide +kernel
theorem d_Md_isSeam_89 : decode b_Md_isSeam 89 = .ok (.goto 4, 3) := by decide +kernel
theorem d_Md_isSeam_92 : decode b_Md_isSeam 92 = .ok (.iconst 0, 1) := by decide +kernel
theorem d_Md_isSeam_93 : decode b_Md_isSeam 93 = .ok (.istore_n 2, 1) := by decide +kernel
theorem d_Md_isSeam_94 : decode b_Md_isSeam 94 = .ok (.iinc 3 1, 3) := by decide +kernel
theorem d_Md_isSeam_97 : decode b_Md_isSeam 97 = .ok (.goto (-93), 3) := by decide +kernel
theorem d_Md_isSeam_100 : decode b_Md_isSeam 100 = .ok (.iload_n 2, 1) := by decide +kernel
theorem d_Md_isSeam_101 : decode b_Md_isSeam 101 = .ok (.ireturn, 1) := by decide +kernel
theorem d_Md_takeOver_0 : decode b_Md_takeOver 0 = .ok (.iconst 0, 1) := by decide +kernel
theorem d_Md_takeOver_1 : decode b_Md_takeOver 1 = .ok (.istore_n 2, 1) := by decide +kernel
theorem d_Md_takeOver_2 : decode b_Md_takeOver 2 = .ok (.iload_n 2, 1) := by decide +kernel
theorem d_Md_takeOver_3 : decode b_Md_takeOver 3 = .ok (.aload_n 0, 1) := by decide +kernel
theorem d_Md_takeOver_4 : decode b_Md_takeOver 4 = .ok (.getfield 66, 3) := by decide +kernel
theorem d_Md_takeOver_7 : decode b_Md_takeOver 7 = .ok (.if_icmp .ge 60, 3) := by decide +kernel
theorem d_Md_takeOver_10 : decode b_Md_takeOver 10 = .ok (.aload_n 0, 1) := by decide +kernel
theorem d_Md_takeOver_11 : decode b_Md_takeOver 11 = .ok (.aload_n 0, 1) := by decide +kernel
theorem d_Md_takeOver_12 : decode b_Md_takeOver 12 = .ok (.getfield 32, 3) := by decide +kernel
theorem d_Md_takeOver_15 : decode b_Md_takeOver 15 = .ok (.iload_n 2, 1) := by decide +kernel
theorem d_Md_takeOver_16 : decode b_Md_takeOver 16 = .ok (.iaload, 1) := by decide +kernel
theorem d_Md_takeOver_17 : decode b_Md_takeOver 17 = .ok (.invokevirtual 115, 3) := by decide +kernel
theorem d_Md_takeOver_20 : decode b_Md_takeOver 20 = .ok (.istore_n 3, 1) := by decide +kernel
theorem d_Md_takeOver_21 : decode b_Md_takeOver 21 = .ok (.aload_n 0, 1) := by decide +kernel
theorem d_Md_takeOver_22 : decode b_Md_takeOver 22 = .ok (.getfield 44, 3) := by decide +kernel
theorem d_Md_takeOver_25 : decode b_Md_takeOver 25 = .ok (.iload_n 2, 1) := by decide +kernel
theorem d_Md_takeOver_26 : decode b_Md_takeOver 26 = .ok (.iload_n 3, 1) := by decide +kernel
theorem d_Md_takeOver_27 : decode b_Md_takeOver 27 = .ok (.ifCond .ge 7, 3) := by decide +kernel
theorem d_Md_takeOver_30 : decode b_Md_takeOver 30 = .ok (.iconst 0, 1) := by decide +kernel
theorem d_Md_takeOver_31 : decode b_Md_takeOver 31 = .ok (.goto 9, 3) := by decide +kernel
theorem d_Md_takeOver_34 : decode b_Md_takeOver 34 = .ok (.aload_n 0, 1) := by decide +kernel
theorem d_Md_takeOver_35 : decode b_Md_takeOver 35 = .ok (.getfield 16, 3) := by decide +kernel
theorem d_Md_takeOver_38 : decode b_Md_takeOver 38 = .ok (.iload_n 3, 1) := by decide +kernel
theorem d_Md_takeOver_39 : decode b_Md_takeOver 39 = .ok (.iaload, 1) := by decide +kernel
theorem d_Md_takeOver_40 : decode b_Md_takeOver 40 = .ok (.iastore, 1) := by decide +kernel
theorem d_Md_takeOver_41 : decode b_Md_takeOver 41 = .ok (.aload_n 0, 1) := by decide +kernel
theorem d_Md_takeOver_42 : decode b_Md_takeOver 42 = .ok (.getfield 41, 3) := by decide +kernel
theorem d_Md_takeOver_45 : decode b_Md_takeOver 45 = .ok (.iload_n 2, 1) := by decide +kernel
theorem d_Md_takeOver_46 : decode b_Md_takeOver 46 = .ok (.iload_n 3, 1) := by decide +kernel
theorem d_Md_takeOver_47 : decode b_Md_takeOver 47 = .ok (.ifCond .ge 7, 3) := by decide +kernel
theorem d_Md_takeOver_50 : decode b_Md_takeOver 50 = .ok (.iconst 0, 1) := by decide +kernel
theorem d_Md_takeOver_51 : decode b_Md_takeOver 51 = .ok (.goto 9, 3) := by decide +kernel
theorem d_Md_takeOver_54 : decode b_Md_takeOver 54 = .ok (.aload_n 0, 1) := by decide +kernel
theorem d_Md_takeOver_55 : decode b_Md_takeOver 55 = .ok (.getfield 19, 3) := by decide +kernel
theorem d_Md_takeOver_58 : decode b_Md_takeOver 58 = .ok (.iload_n 3, 1) := by decide +kernel
theorem d_Md_takeOver_59 : decode b_Md_takeOver 59 = .ok (.iaload, 1) := by decide +kernel
theorem d_Md_takeOver_60 : decode b_Md_takeOver 60 = .ok (.iastore, 1) := by decide +kernel
theorem d_Md_takeOver_61 : decode b_Md_takeOver 61 = .ok (.iinc 2 1, 3) := by decide +kernel
theorem d_Md_takeOver_64 : decode b_Md_takeOver 64 = .ok (.goto (-62), 3) := by decide +kernel
theorem d_Md_takeOver_67 : decode b_Md_takeOver 67 = .ok (.iconst 0, 1) := by decide +kernel
theorem d_Md_takeOver_68 : decode b_Md_takeOver 68 = .ok (.istore_n 2, 1) := by decide +kernel
theorem d_Md_takeOver_69 : decode b_Md_takeOver 69 = .ok (.aload_n 0, 1) := by decide +kernel
theorem d_Md_takeOver_70 : decode b_Md_takeOver 70 = .ok (.aload_n 0, 1) := by decide +kernel
theorem d_Md_takeOver_71 : decode b_Md_takeOver 71 = .ok (.getfield 66, 3) := by decide +kernel
theorem d_Md_takeOver_74 : decode b_Md_takeOver 74 = .ok (.putfield 60, 3) := by decide +kernel
theorem d_Md_takeOver_77 : decode b_Md_takeOver 77 = .ok (.iconst 0, 1) := by decide +kernel
theorem d_Md_takeOver_78 : decode b_Md_takeOver 78 = .ok (.istore_n 3, 1) := by decide +kernel
theorem d_Md_takeOver_79 : decode b_Md_takeOver 79 = .ok (.iload_n 3, 1) := by decide +kernel
theorem d_Md_takeOver_80 : decode b_Md_takeOver 80 = .ok (.aload_n 0, 1) := by decide +kernel
theorem d_Md_takeOver_81 : decode b_Md_takeOver 81 = .ok (.getfield 66, 3) := by decide +kernel
theorem d_Md_takeOver_84 : decode b_Md_takeOver 84 = .ok (.if_icmp .ge 80, 3) := by decide +kernel
theorem d_Md_takeOver_87 : decode b_Md_takeOver 87 = .ok (.aload_n 0, 1) := by decide +kernel
theorem d_Md_takeOver_88 : decode b_Md_takeOver 88 = .ok (.getfield 7, 3) := by decide +kernel
theorem d_Md_takeOver_91 : decode b_Md_takeOver 91 = .ok (.iload_n 3, 1) := by decide +kernel
theorem d_Md_takeOver_92 : decode b_Md_takeOver 92 = .ok (.aload_n 0, 1) := by decide +kernel
theorem d_Md_takeOver_93 : decode b_Md_takeOver 93 = .ok (.getfield 32, 3) := by decide +kernel
theorem d_Md_takeOver_96 : decode b_Md_takeOver 96 = .ok (.iload_n 3, 1) := by decide +kernel
theorem d_Md_takeOver_97 : decode b_Md_takeOver 97 = .ok (.iaload, 1) := by decide +kernel
theorem d_Md_takeOver_98 : decode b_Md_takeOver 98 = .ok (.iastore, 1) := by decide +kernel
theorem d_Md_takeOver_99 : decode b_Md_takeOver 99 = .ok (.aload_n 0, 1) := by decide +kernel
theorem d_Md_takeOver_100 : decode b_Md_takeOver 100 = .ok (.getfield 13, 3) := by decide +kernel
theorem d_Md_takeOver_103 : decode b_Md_takeOver 103 = .ok (.iload_n 3, 1) := by decide +kernel
theorem d_Md_takeOver_104 : decode b_Md_takeOver 104 = .ok (.aload_n 0, 1) := by decide +kernel
theorem d_Md_takeOver_105 : decode b_Md_takeOver 105 = .ok (.getfield 35, 3) := by decide +kernel
theorem d_Md_takeOver_108 : decode b_Md_takeOver 108 = .ok (.iload_n 3, 1) := by decide +kernel
theorem d_Md_takeOver_109 : decode b_Md_takeOver 109 = .ok (.iaload, 1) := by decide +kernel
theorem d_Md_takeOver_110 : decode b_Md_takeOver 110 = .ok (.iastore, 1) := by decide +kernel
theorem d_Md_takeOver_111 : decode b_Md_takeOver 111 = .ok (.aload_n 0, 1) := by decide +kernel
theorem d_Md_takeOver_112 : decode b_Md_takeOver 112 = .ok (.getfield 16, 3) := by decide +kernel
theorem d_Md_takeOver_115 : decode b_Md_takeOver 115 = .ok (.iload_n 3, 1) := by decide +kernel
theorem d_Md_takeOver_116 : decode b_Md_takeOver 116 = .ok (.aload_n 0, 1) := by decide +kernel
theorem d_Md_takeOver_117 : decode b_Md_takeOver 117 = .ok (.getfield 44, 3) := by decide +kernel
theorem d_Md_takeOver_120 : decode b_Md_takeOver 120 = .ok (.iload_n 3, 1) := by decide +kernel
theorem d_Md_takeOver_121 : decode b_Md_takeOver 121 = .ok (.iaload, 1) := by decide +kernel
theorem d_Md_takeOver_122 : decode b_Md_takeOver 122 = .ok (.iastore, 1) := by decide +kernel
theorem d_Md_takeOver_123 : decode b_Md_takeOver 123 = .ok (.aload_n 0, 1) := by decide +kernel
theorem d_Md_takeOver_124 : decode b_Md_takeOver 124 = .ok (.getfield 19, 3) := by decide +kernel
theorem d_Md_takeOver_127 : decode b_Md_takeOver 127 = .ok (.iload_n 3, 1) := by decide +kernel
theorem d_Md_takeOver_128 : decode b_Md_takeOver 128 = .ok (.aload_n 0, 1) := by decide +kernel
theorem d_Md_takeOver_129 : decode b_Md_takeOver 129 = .ok (.getfield 41, 3) := by decide +kernel
theorem d_Md_takeOver_132 : decode b_Md_takeOver 132 = .ok (.iload_n 3, 1) := by decide +kernel
theorem d_Md_takeOver_133 : decode b_Md_takeOver 133 = .ok (.iaload, 1) := by decide +kernel
theorem d_Md_takeOver_134 : decode b_Md_takeOver 134 = .ok (.iastore, 1) := by decide +kernel
theorem d_Md_takeOver_135 : decode b_Md_takeOver 135 = .ok (.iload_n 2, 1) := by decide +kernel
theorem d_Md_takeOver_136 : decode b_Md_takeOver 136 = .ok (.ifCond .ne 16, 3) := by decide +kernel
theorem d_Md_takeOver_139 : decode b_Md_takeOver 139 = .ok (.aload_n 0, 1) := by decide +kernel
theorem d_Md_takeOver_140 : decode b_Md_takeOver 140 = .ok (.getfield 7, 3) := by decide +kernel
theorem d_Md_takeOver_143 : decode b_Md_takeOver 143 = .ok (.iload_n 3, 1) := by decide +kernel
theorem d_Md_takeOver_144 : decode b_Md_takeOver 144 = .ok (.iaload, 1) := by decide +kernel
theorem d_Md_takeOver_145 : decode b_Md_takeOver 145 = .ok (.aload_n 0, 1) := by decide +kernel
theorem d_Md_takeOver_146 : decode b_Md_takeOver 146 = .ok (.getfield 128, 3) := by decide +kernel
theorem d_Md_takeOver_149 : decode b_Md_takeOver 149 = .ok (.if_icmp .ne 7, 3) := by decide +kernel
theorem d_Md_takeOver_152 : decode b_Md_takeOver 152 = .ok (.iconst 1, 1) := by decide +kernel
theorem d_Md_takeOver_153 : decode b_Md_takeOver 153 = .ok (.goto 4, 3) := by decide +kernel
theorem d_Md_takeOver_156 : decode b_Md_takeOver 156 = .ok (.iconst 0, 1) := by decide +kernel
theorem d_Md_takeOver_157 : decode b_Md_takeOver 157 = .ok (.istore_n 2, 1) := by decide +kernel
theorem d_Md_takeOver_158 : decode b_Md_takeOver 158 = .ok (.iinc 3 1, 3) := by decide +kernel
theorem d_Md_takeOver_161 : decode b_Md_takeOver 161 = .ok (.goto (-82), 3) := by decide +kernel
theorem d_Md_takeOver_164 : decode b_Md_takeOver 164 = .ok (.aload_n 0, 1) := by decide +kernel
theorem d_Md_takeOver_165 : decode b_Md_takeOver 165 = .ok (.iload_n 2, 1) := by decide +kernel
theorem d_Md_takeOver_166 : decode b_Md_takeOver 166 = .ok (.ifCond .eq 10, 3) := by decide +kernel
theorem d_Md_takeOver_169 : decode b_Md_takeOver 169 = .ok (.aload_n 0, 1) := by decide +kernel
theorem d_Md_takeOver_170 : decode b_Md_takeOver 170 = .ok (.getfield 128, 3) := by decide +kernel
theorem d_Md_takeOver_173 : decode b_Md_takeOver 173 = .ok (.goto 4, 3) := by decide +kernel
theorem d_Md_takeOver_176 : decode b_Md_takeOver 176 = .ok (.iconst 0, 1) := by decide +kernel
theorem d_Md_takeOver_177 : decode b_Md_takeOver 177 = .ok (.putfield 128, 3) := by decide +kernel
theorem d_Md_takeOver_180 : decode b_Md_takeOver 180 = .ok (.aload_n 0, 1) := by decide +kernel
theorem d_Md_takeOver_181 : decode b_Md_takeOver 181 = .ok (.aload_n 0, 1) := by decide +kernel
theorem d_Md_takeOver_182 : decode b_Md_takeOver 182 = .ok (.getfield 77, 3) := by decide +kernel
theorem d_Md_takeOver_185 : decode b_Md_takeOver 185 = .ok (.putfield 22, 3) := by decide +kernel
theorem d_Md_takeOver_188 : decode b_Md_takeOver 188 = .ok (.iconst 0, 1) := by decide +kernel
theorem d_Md_takeOver_189 : decode b_Md_takeOver 189 = .ok (.istore_n 3, 1) := by decide +kernel
theorem d_Md_takeOver_190 : decode b_Md_takeOver 190 = .ok (.iload_n 3, 1) := by decide +kernel
theorem d_Md_takeOver_191 : decode b_Md_takeOver 191 = .ok (.aload_n 0, 1) := by decide +kernel
theorem d_Md_takeOver_192 : decode b_Md_takeOver 192 = .ok (.getfield 22, 3) := by decide +kernel
theorem d_Md_takeOver_195 : decode b_Md_takeOver 195 = .ok (.if_icmp .ge 21, 3) := by decide +kernel
theorem d_Md_takeOver_198 : decode b_Md_takeOver 198 = .ok (.aload_n 0, 1) := by decide +kernel
theorem d_Md_takeOver_199 : decode b_Md_takeOver 199 = .ok (.getfield 26, 3) := by decide +kernel
theorem d_Md_takeOver_202 : decode b_Md_takeOver 202 = .ok (.iload_n 3, 1) := by decide +kernel
theorem d_Md_takeOver_203 : decode b_Md_takeOver 203 = .ok (.aload_n 0, 1) := by decide +kernel
theorem d_Md_takeOver_204 : decode b_Md_takeOver 204 = .ok (.getfield 38, 3) := by decide +kernel
theorem d_Md_takeOver_207 : decode b_Md_takeOver 207 = .ok (.iload_n 3, 1) := by decide +kernel
theorem d_Md_takeOver_208 : decode b_Md_takeOver 208 = .ok (.iaload, 1) := by decide +kernel
theorem d_Md_takeOver_209 : decode b_Md_takeOver 209 = .ok (.iastore, 1) := by decide +kernel
theorem d_Md_takeOver_210 : decode b_Md_takeOver 210 = .ok (.iinc 3 1, 3) := by decide +kernel
theorem d_Md_takeOver_213 : decode b_Md_takeOver 213 = .ok (.goto (-23), 3) := by decide +kernel
theorem d_Md_takeOver_216 : decode b_Md_takeOver 216 = .ok (.aload_n 0, 1) := by decide +kernel
theorem d_Md_takeOver_217 : decode b_Md_takeOver 217 = .ok (.iload_n 1, 1) := by decide +kernel
theorem d_Md_takeOver_218 : decode b_Md_takeOver 218 = .ok (.putfield 131, 3) := by decide +kernel
theorem d_Md_takeOver_221 : decode b_Md_takeOver 221 = .ok (.aload_n 0, 1) := by decide +kernel
theorem d_Md_takeOver_222 : decode b_Md_takeOver 222 = .ok (.aload_n 0, 1) := by decide +kernel
theorem d_Md_takeOver_223 : decode b_Md_takeOver 223 = .ok (.getfield 29, 3) := by decide +kernel
theorem d_Md_takeOver_226 : decode b_Md_takeOver 226 = .ok (.putfield 134, 3) := by decide +kernel
theorem d_Md_takeOver_229 : decode b_Md_takeOver 229 = .ok (.aload_n 0, 1) := by decide +kernel
theorem d_Md_takeOver_230 : decode b_Md_takeOver 230 = .ok (.iconst (-1), 1) := by decide +kernel
theorem d_Md_takeOver_231 : decode b_Md_takeOver 231 = .ok (.putfield 29, 3) := by decide +kernel
theorem d_Md_takeOver_234 : decode b_Md_takeOver 234 = .ok (.return_, 1) := by decide +kernel
theorem d_Md_wish_0 : decode b_Md_wish 0 = .ok (.aload_n 0, 1) := by decide +kernel
theorem d_Md_wish_1 : decode b_Md_wish 1 = .ok (.aload_n 0, 1) := by decide +kernel
theorem d_Md_wish_2 : decode b_Md_wish 2 = .ok (.iload_n 1, 1) := by decide +kernel
theorem d_Md_wish_3 : decode b_Md_wish 3 = .ok (.invokevirtual 115, 3) := by decide +kernel
theorem d_Md_wish_6 : decode b_Md_wish 6 = .ok (.ifCond .ge 7, 3) := by decide +kernel
theorem d_Md_wish_9 : decode b_Md_wish 9 = .ok (.iconst 1, 1) := by decide +kernel
theorem d_Md_wish_10 : decode b_Md_wish 10 = .ok (.goto 4, 3) := by decide +kernel
theorem d_Md_wish_13 : decode b_Md_wish 13 = .ok (.iconst 0, 1) := by decide +kernel
theorem d_Md_wish_14 : decode b_Md_wish 14 = .ok (.aload_n 0, 1) := by decide +kernel
theorem d_Md_wish_15 : decode b_Md_wish 15 = .ok (.getfield 128, 3) := by decide +kernel
theorem d_Md_wish_18 : decode b_Md_wish 18 = .ok (.ifCond .le 7, 3) := by decide +kernel
theorem d_Md_wish_21 : decode b_Md_wish 21 = .ok (.iconst 1, 1) := by decide +kernel
theorem d_Md_wish_22 : decode b_Md_wish 22 = .ok (.goto 4, 3) := by decide +kernel
theorem d_Md_wish_25 : decode b_Md_wish 25 = .ok (.iconst 0, 1) := by decide +kernel
theorem d_Md_wish_26 : decode b_Md_wish 26 = .ok (.iconst 0, 1) := by decide +kernel
theorem d_Md_wish_27 : decode b_Md_wish 27 = .ok (.invokevirtual 118, 3) := by decide +kernel
theorem d_Md_wish_30 : decode b_Md_wish 30 = .ok (.ifCond .eq 4, 3) := by decide +kernel
theorem d_Md_wish_33 : decode b_Md_wish 33 = .ok (.return_, 1) := by decide +kernel
theorem d_Md_wish_34 : decode b_Md_wish 34 = .ok (.aload_n 0, 1) := by decide +kernel
theorem d_Md_wish_35 : decode b_Md_wish 35 = .ok (.iload_n 1, 1) := by decide +kernel
theorem d_Md_wish_36 : decode b_Md_wish 36 = .ok (.putfield 128, 3) := by decide +kernel
theorem d_Md_wish_39 : decode b_Md_wish 39 = .ok (.return_, 1) := by decide +kernel
theorem d_Md_waited_0 : decode b_Md_waited 0 = .ok (.aload_n 0, 1) := by decide +kernel
theorem d_Md_waited_1 : decode b_Md_waited 1 = .ok (.iload_n 1, 1) := by decide +kernel
theorem d_Md_waited_2 : decode b_Md_waited 2 = .ok (.invokevirtual 115, 3) := by decide +kernel
theorem d_Md_waited_5 : decode b_Md_waited 5 = .ok (.istore_n 2, 1) := by decide +kernel
theorem d_Md_waited_6 : decode b_Md_waited 6 = .ok (.aload_n 0, 1) := by decide +kernel
theorem d_Md_waited_7 : decode b_Md_waited 7 = .ok (.iload_n 2, 1) := by decide +kernel
theorem d_Md_waited_8 : decode b_Md_waited 8 = .ok (.ifCond .ge 7, 3) := by decide +kernel
theorem d_Md_waited_11 : decode b_Md_waited 11 = .ok (.iconst 1, 1) := by decide +kernel
theorem d_Md_waited_12 : decode b_Md_waited 12 = .ok (.goto 4, 3) := by decide +kernel
theorem d_Md_waited_15 : decode b_Md_waited 15 = .ok (.iconst 0, 1) := by decide +kernel
theorem d_Md_waited_16 : decode b_Md_waited 16 = .ok (.iconst 0, 1) := by decide +kernel
theorem d_Md_waited_17 : decode b_Md_waited 17 = .ok (.iconst 0, 1) := by decide +kernel
theorem d_Md_waited_18 : decode b_Md_waited 18 = .ok (.invokevirtual 118, 3) := by decide +kernel
theorem d_Md_waited_21 : decode b_Md_waited 21 = .ok (.ifCond .eq 7, 3) := by decide +kernel
theorem d_Md_waited_24 : decode b_Md_waited 24 = .ok (.iconst 0, 1) := by decide +kernel
theorem d_Md_waited_25 : decode b_Md_waited 25 = .ok (.goto 9, 3) := by decide +kernel
theorem d_Md_waited_28 : decode b_Md_waited 28 = .ok (.aload_n 0, 1) := by decide +kernel
theorem d_Md_waited_29 : decode b_Md_waited 29 = .ok (.getfield 16, 3) := by decide +kernel
theorem d_Md_waited_32 : decode b_Md_waited 32 = .ok (.iload_n 2, 1) := by decide +kernel
theorem d_Md_waited_33 : decode b_Md_waited 33 = .ok (.iaload, 1) := by decide +kernel
theorem d_Md_waited_34 : decode b_Md_waited 34 = .ok (.ireturn, 1) := by decide +kernel
theorem d_Md_worst_0 : decode b_Md_worst 0 = .ok (.aload_n 0, 1) := by decide +kernel
theorem d_Md_worst_1 : decode b_Md_worst 1 = .ok (.iload_n 1, 1) := by decide +kernel
theorem d_Md_worst_2 : decode b_Md_worst 2 = .ok (.invokevirtual 115, 3) := by decide +kernel
theorem d_Md_worst_5 : decode b_Md_worst 5 = .ok (.istore_n 2, 1) := by decide +kernel
theorem d_Md_worst_6 : decode b_Md_worst 6 = .ok (.aload_n 0, 1) := by decide +kernel
theorem d_Md_worst_7 : decode b_Md_worst 7 = .ok (.iload_n 2, 1) := by decide +kernel
theorem d_Md_worst_8 : decode b_Md_worst 8 = .ok (.ifCond .ge 7, 3) := by decide +kernel
theorem d_Md_worst_11 : decode b_Md_worst 11 = .ok (.iconst 1, 1) := by decide +kernel
theorem d_Md_worst_12 : decode b_Md_worst 12 = .ok (.goto 4, 3) := by decide +kernel
theorem d_Md_worst_15 : decode b_Md_worst 15 = .ok (.iconst 0, 1) := by decide +kernel
theorem d_Md_worst_16 : decode b_Md_worst 16 = .ok (.iconst 0, 1) := by decide +kernel
theorem d_Md_worst_17 : decode b_Md_worst 17 = .ok (.iconst 0, 1) := by decide +kernel
theorem d_Md_worst_18 : decode b_Md_worst 18 = .ok (.invokevirtual 118, 3) := by decide +kernel
theorem d_Md_worst_21 : decode b_Md_worst 21 = .ok (.ifCond .eq 7, 3) := by decide +kernel
theorem d_Md_worst_24 : decode b_Md_worst 24 = .ok (.iconst 0, 1) := by decide +kernel
theorem d_Md_worst_25 : decode b_Md_worst 25 = .ok (.goto 9, 3) := by decide +kernel
theorem d_Md_worst_28 : decode b_Md_worst 28 = .ok (.aload_n 0, 1) := by decide +kernel
theorem d_Md_worst_29 : decode b_Md_worst 29 = .ok (.getfield 19, 3) := by decide +kernel
theorem d_Md_worst_32 : decode b_Md_worst 32 = .ok (.iload_n 2, 1) := by decide +kernel
theorem d_Md_worst_33 : decode b_Md_worst 33 = .ok (.iaload, 1) := by decide +kernel
theorem d_Md_worst_34 : decode b_Md_worst 34 = .ok (.ireturn, 1) := by decide +kernel
theorem d_Md_span_0 : decode b_Md_span 0 = .ok (.aload_n 0, 1) := by decide +kernel
theorem d_Md_span_1 : decode b_Md_span 1 = .ok (.iload_n 1, 1) := by decide +kernel
theorem d_Md_span_2 : decode b_Md_span 2 = .ok (.invokevirtual 115, 3) := by decide +kernel
theorem d_Md_span_5 : decode b_Md_span 5 = .ok (.istore_n 2, 1) := by decide +kernel
theorem d_Md_span_6 : decode b_Md_span 6 = .ok (.aload_n 0, 1) := by decide +kernel
theorem d_Md_span_7 : decode b_Md_span 7 = .ok (.iload_n 2, 1) := by decide +kernel
theorem d_Md_span_8 : decode b_Md_span 8 = .ok (.ifCond .ge 7, 3) := by decide +kernel
theorem d_Md_span_11 : decode b_Md_span 11 = .ok (.iconst 1, 1) := by decide +kernel
theorem d_Md_span_12 : decode b_Md_span 12 = .ok (.goto 4, 3) := by decide +kernel
theorem d_Md_span_15 : decode b_Md_span 15 = .ok (.iconst 0, 1) := by decide +kernel
theorem d_Md_span_16 : decode b_Md_span 16 = .ok (.iconst 0, 1) := by decide +kernel
theorem d_Md_span_17 : decode b_Md_span 17 = .ok (.iconst 0, 1) := by decide +kernel
theorem d_Md_span_18 : decode b_Md_span 18 = .ok (.invokevirtual 118, 3) := by decide +kernel
theorem d_Md_span_21 : decode b_Md_span 21 = .ok (.ifCond .eq 7, 3) := by decide +kernel
theorem d_Md_span_24 : decode b_Md_span 24 = .ok (.iconst 0, 1) := by decide +kernel
theorem d_Md_span_25 : decode b_Md_span 25 = .ok (.goto 9, 3) := by decide +kernel
theorem d_Md_span_28 : decode b_Md_span 28 = .ok (.aload_n 0, 1) := by decide +kernel
theorem d_Md_span_29 : decode b_Md_span 29 = .ok (.getfield 13, 3) := by decide +kernel
theorem d_Md_span_32 : decode b_Md_span 32 = .ok (.iload_n 2, 1) := by decide +kernel
theorem d_Md_span_33 : decode b_Md_span 33 = .ok (.iaload, 1) := by decide +kernel
theorem d_Md_span_34 : decode b_Md_span 34 = .ok (.ireturn, 1) := by decide +kernel
theorem d_Md_cycle_0 : decode b_Md_cycle 0 = .ok (.iload_n 1, 1) := by decide +kernel
theorem d_Md_cycle_1 : decode b_Md_cycle 1 = .ok (.ifCond .eq 14, 3) := by decide +kernel
theorem d_Md_cycle_4 : decode b_Md_cycle 4 = .ok (.aload_n 0, 1) := by decide +kernel
theorem d_Md_cycle_5 : decode b_Md_cycle 5 = .ok (.getfield 29, 3) := by decide +kernel
theorem d_Md_cycle_8 : decode b_Md_cycle 8 = .ok (.ifCond .ge 7, 3) := by decide +kernel
theorem d_Md_cycle_11 : decode b_Md_cycle 11 = .ok (.iconst 1, 1) := by decide +kernel
theorem d_Md_cycle_12 : decode b_Md_cycle 12 = .ok (.goto 4, 3) := by decide +kernel
theorem d_Md_cycle_15 : decode b_Md_cycle 15 = .ok (.iconst 0, 1) := by decide +kernel
theorem d_Md_cycle_16 : decode b_Md_cycle 16 = .ok (.istore_n 3, 1) := by decide +kernel
theorem d_Md_cycle_17 : decode b_Md_cycle 17 = .ok (.iload_n 1, 1) := by decide +kernel
theorem d_Md_cycle_18 : decode b_Md_cycle 18 = .ok (.ifCond .eq 10, 3) := by decide +kernel
theorem d_Md_cycle_21 : decode b_Md_cycle 21 = .ok (.aload_n 0, 1) := by decide +kernel
theorem d_Md_cycle_22 : decode b_Md_cycle 22 = .ok (.getfield 77, 3) := by decide +kernel
theorem d_Md_cycle_25 : decode b_Md_cycle 25 = .ok (.goto 7, 3) := by decide +kernel
theorem d_Md_cycle_28 : decode b_Md_cycle 28 = .ok (.aload_n 0, 1) := by decide +kernel
theorem d_Md_cycle_29 : decode b_Md_cycle 29 = .ok (.getfield 22, 3) := by decide +kernel
theorem d_Md_cycle_32 : decode b_Md_cycle 32 = .ok (.istore 4, 2) := by decide +kernel
theorem d_Md_cycle_34 : decode b_Md_cycle 34 = .ok (.aload_n 0, 1) := by decide +kernel
theorem d_Md_cycle_35 : decode b_Md_cycle 35 = .ok (.iload_n 3, 1) := by decide +kernel
theorem d_Md_cycle_36 : decode b_Md_cycle 36 = .ok (.iload_n 3, 1) := by decide +kernel
theorem d_Md_cycle_37 : decode b_Md_cycle 37 = .ok (.ifCond .ne 19, 3) := by decide +kernel
theorem d_Md_cycle_40 : decode b_Md_cycle 40 = .ok (.iload_n 2, 1) := by decide +kernel
theorem d_Md_cycle_41 : decode b_Md_cycle 41 = .ok (.iconst (-1), 1) := by decide +kernel
theorem d_Md_cycle_42 : decode b_Md_cycle 42 = .ok (.iload 4, 2) := by decide +kernel
theorem d_Md_cycle_44 : decode b_Md_cycle 44 = .ok (.iconst 1, 1) := by decide +kernel
theorem d_Md_cycle_45 : decode b_Md_cycle 45 = .ok (.isub, 1) := by decide +kernel
theorem d_Md_cycle_46 : decode b_Md_cycle 46 = .ok (.invokestatic 111, 3) := by decide +kernel
theorem d_Md_cycle_49 : decode b_Md_cycle 49 = .ok (.ifCond .ne 7, 3) := by decide +kernel
theorem d_Md_cycle_52 : decode b_Md_cycle 52 = .ok (.iconst 1, 1) := by decide +kernel
theorem d_Md_cycle_53 : decode b_Md_cycle 53 = .ok (.goto 4, 3) := by decide +kernel
theorem d_Md_cycle_56 : decode b_Md_cycle 56 = .ok (.iconst 0, 1) := by decide +kernel
theorem d_Md_cycle_57 : decode b_Md_cycle 57 = .ok (.iconst 0, 1) := by decide +kernel
theorem d_Md_cycle_58 : decode b_Md_cycle 58 = .ok (.invokevirtual 118, 3) := by decide +kernel
theorem d_Md_cycle_61 : decode b_Md_cycle 61 = .ok (.ifCond .eq 5, 3) := by decide +kernel
theorem d_Md_cycle_64 : decode b_Md_cycle 64 = .ok (.iconst 0, 1) := by decide +kernel
theorem d_Md_cycle_65 : decode b_Md_cycle 65 = .ok (.ireturn, 1) := by decide +kernel
theorem d_Md_cycle_66 : decode b_Md_cycle 66 = .ok (.iload_n 2, 1) := by decide +kernel
theorem d_Md_cycle_67 : decode b_Md_cycle 67 = .ok (.ifCond .ge 8, 3) := by decide +kernel
theorem d_Md_cycle_70 : decode b_Md_cycle 70 = .ok (.iload 4, 2) := by decide +kernel
theorem d_Md_cycle_72 : decode b_Md_cycle 72 = .ok (.goto 22, 3) := by decide +kernel
theorem d_Md_cycle_75 : decode b_Md_cycle 75 = .ok (.iload_n 1, 1) := by decide +kernel
theorem d_Md_cycle_76 : decode b_Md_cycle 76 = .ok (.ifCond .eq 12, 3) := by decide +kernel
theorem d_Md_cycle_79 : decode b_Md_cycle 79 = .ok (.aload_n 0, 1) := by decide +kernel
theorem d_Md_cycle_80 : decode b_Md_cycle 80 = .ok (.getfield 38, 3) := by decide +kernel
theorem d_Md_cycle_83 : decode b_Md_cycle 83 = .ok (.iload_n 2, 1) := by decide +kernel
theorem d_Md_cycle_84 : decode b_Md_cycle 84 = .ok (.iaload, 1) := by decide +kernel
theorem d_Md_cycle_85 : decode b_Md_cycle 85 = .ok (.goto 9, 3) := by decide +kernel
theorem d_Md_cycle_88 : decode b_Md_cycle 88 = .ok (.aload_n 0, 1) := by decide +kernel
theorem d_Md_cycle_89 : decode b_Md_cycle 89 = .ok (.getfield 26, 3) := by decide +kernel
theorem d_Md_cycle_92 : decode b_Md_cycle 92 = .ok (.iload_n 2, 1) := by decide +kernel
theorem d_Md_cycle_93 : decode b_Md_cycle 93 = .ok (.iaload, 1) := by decide +kernel
theorem d_Md_cycle_94 : decode b_Md_cycle 94 = .ok (.ireturn, 1) := by decide +kernel
theorem d_Md_about_0 : decode b_Md_about 0 = .ok (.aload_n 0, 1) := by decide +kernel
theorem d_Md_about_1 : decode b_Md_about 1 = .ok (.iload_n 1, 1) := by decide +kernel
theorem d_Md_about_2 : decode b_Md_about 2 = .ok (.iconst 0, 1) := by decide +kernel
theorem d_Md_about_3 : decode b_Md_about 3 = .ok (.bipush 6, 2) := by decide +kernel
theorem d_Md_about_5 : decode b_Md_about 5 = .ok (.invokestatic 111, 3) := by decide +kernel
