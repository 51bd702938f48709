theorem d_Sb_canComeFrom_31 : decode b_Sb_canComeFrom 31 = .ok (.iconst 0, 1) := by decide +kernel
theorem d_Sb_canComeFrom_32 : decode b_Sb_canComeFrom 32 = .ok (.istore 4, 2) := by decide +kernel
theorem d_Sb_canComeFrom_34 : decode b_Sb_canComeFrom 34 = .ok (.iload 4, 2) := by decide +kernel
theorem d_Sb_canComeFrom_36 : decode b_Sb_canComeFrom 36 = .ok (.iload_n 3, 1) := by decide +kernel
theorem d_Sb_canComeFrom_37 : decode b_Sb_canComeFrom 37 = .ok (.iload_n 2, 1) := by decide +kernel
theorem d_Sb_canComeFrom_38 : decode b_Sb_canComeFrom 38 = .ok (.if_icmp .ne 7, 3) := by decide +kernel
theorem d_Sb_canComeFrom_41 : decode b_Sb_canComeFrom 41 = .ok (.iconst 1, 1) := by decide +kernel
theorem d_Sb_canComeFrom_42 : decode b_Sb_canComeFrom 42 = .ok (.goto 4, 3) := by decide +kernel
theorem d_Sb_canComeFrom_45 : decode b_Sb_canComeFrom 45 = .ok (.iconst 0, 1) := by decide +kernel
theorem d_Sb_canComeFrom_46 : decode b_Sb_canComeFrom 46 = .ok (.if_icmp .eq 5, 3) := by decide +kernel
theorem d_Sb_canComeFrom_49 : decode b_Sb_canComeFrom 49 = .ok (.iconst 0, 1) := by decide +kernel
theorem d_Sb_canComeFrom_50 : decode b_Sb_canComeFrom 50 = .ok (.ireturn, 1) := by decide +kernel
theorem d_Sb_canComeFrom_51 : decode b_Sb_canComeFrom 51 = .ok (.iinc 3 1, 3) := by decide +kernel
theorem d_Sb_canComeFrom_54 : decode b_Sb_canComeFrom 54 = .ok (.goto (-52), 3) := by decide +kernel
theorem d_Sb_canComeFrom_57 : decode b_Sb_canComeFrom 57 = .ok (.iconst 1, 1) := by decide +kernel
theorem d_Sb_canComeFrom_58 : decode b_Sb_canComeFrom 58 = .ok (.ireturn, 1) := by decide +kernel
theorem d_Sb_strikeOneWay_0 : decode b_Sb_strikeOneWay 0 = .ok (.aload_n 0, 1) := by decide +kernel
theorem d_Sb_strikeOneWay_1 : decode b_Sb_strikeOneWay 1 = .ok (.getfield 31, 3) := by decide +kernel
theorem d_Sb_strikeOneWay_4 : decode b_Sb_strikeOneWay 4 = .ok (.iload_n 1, 1) := by decide +kernel
theorem d_Sb_strikeOneWay_5 : decode b_Sb_strikeOneWay 5 = .ok (.dup2, 1) := by decide +kernel
theorem d_Sb_strikeOneWay_6 : decode b_Sb_strikeOneWay 6 = .ok (.iaload, 1) := by decide +kernel
theorem d_Sb_strikeOneWay_7 : decode b_Sb_strikeOneWay 7 = .ok (.iconst 1, 1) := by decide +kernel
theorem d_Sb_strikeOneWay_8 : decode b_Sb_strikeOneWay 8 = .ok (.isub, 1) := by decide +kernel
theorem d_Sb_strikeOneWay_9 : decode b_Sb_strikeOneWay 9 = .ok (.iastore, 1) := by decide +kernel
theorem d_Sb_strikeOneWay_10 : decode b_Sb_strikeOneWay 10 = .ok (.aload_n 0, 1) := by decide +kernel
theorem d_Sb_strikeOneWay_11 : decode b_Sb_strikeOneWay 11 = .ok (.getfield 31, 3) := by decide +kernel
theorem d_Sb_strikeOneWay_14 : decode b_Sb_strikeOneWay 14 = .ok (.iload_n 1, 1) := by decide +kernel
theorem d_Sb_strikeOneWay_15 : decode b_Sb_strikeOneWay 15 = .ok (.iaload, 1) := by decide +kernel
theorem d_Sb_strikeOneWay_16 : decode b_Sb_strikeOneWay 16 = .ok (.ifCond .ne 20, 3) := by decide +kernel
theorem d_Sb_strikeOneWay_19 : decode b_Sb_strikeOneWay 19 = .ok (.aload_n 0, 1) := by decide +kernel
theorem d_Sb_strikeOneWay_20 : decode b_Sb_strikeOneWay 20 = .ok (.getfield 34, 3) := by decide +kernel
theorem d_Sb_strikeOneWay_23 : decode b_Sb_strikeOneWay 23 = .ok (.aload_n 0, 1) := by decide +kernel
theorem d_Sb_strikeOneWay_24 : decode b_Sb_strikeOneWay 24 = .ok (.dup, 1) := by decide +kernel
theorem d_Sb_strikeOneWay_25 : decode b_Sb_strikeOneWay 25 = .ok (.getfield 37, 3) := by decide +kernel
theorem d_Sb_strikeOneWay_28 : decode b_Sb_strikeOneWay 28 = .ok (.dup_x1, 1) := by decide +kernel
theorem d_Sb_strikeOneWay_29 : decode b_Sb_strikeOneWay 29 = .ok (.iconst 1, 1) := by decide +kernel
theorem d_Sb_strikeOneWay_30 : decode b_Sb_strikeOneWay 30 = .ok (.iadd, 1) := by decide +kernel
theorem d_Sb_strikeOneWay_31 : decode b_Sb_strikeOneWay 31 = .ok (.putfield 37, 3) := by decide +kernel
theorem d_Sb_strikeOneWay_34 : decode b_Sb_strikeOneWay 34 = .ok (.iload_n 1, 1) := by decide +kernel
theorem d_Sb_strikeOneWay_35 : decode b_Sb_strikeOneWay 35 = .ok (.iastore, 1) := by decide +kernel
theorem d_Sb_strikeOneWay_36 : decode b_Sb_strikeOneWay 36 = .ok (.return_, 1) := by decide +kernel
theorem d_Lw_ask_0 : decode b_Lw_ask 0 = .ok (.aload_n 3, 1) := by decide +kernel
theorem d_Lw_ask_1 : decode b_Lw_ask 1 = .ok (.iconst 0, 1) := by decide +kernel
theorem d_Lw_ask_2 : decode b_Lw_ask 2 = .ok (.aload_n 0, 1) := by decide +kernel
theorem d_Lw_ask_3 : decode b_Lw_ask 3 = .ok (.iload_n 1, 1) := by decide +kernel
theorem d_Lw_ask_4 : decode b_Lw_ask 4 = .ok (.iload_n 2, 1) := by decide +kernel
theorem d_Lw_ask_5 : decode b_Lw_ask 5 = .ok (.invokevirtual 7, 3) := by decide +kernel
theorem d_Lw_ask_8 : decode b_Lw_ask 8 = .ok (.i2l, 1) := by decide +kernel
theorem d_Lw_ask_9 : decode b_Lw_ask 9 = .ok (.lastore, 1) := by decide +kernel
theorem d_Lw_ask_10 : decode b_Lw_ask 10 = .ok (.goto 15, 3) := by decide +kernel
theorem d_Lw_ask_13 : decode b_Lw_ask 13 = .ok (.astore 4, 2) := by decide +kernel
theorem d_Lw_ask_15 : decode b_Lw_ask 15 = .ok (.iconst 1, 1) := by decide +kernel
theorem d_Lw_ask_16 : decode b_Lw_ask 16 = .ok (.ireturn, 1) := by decide +kernel
theorem d_Lw_ask_17 : decode b_Lw_ask 17 = .ok (.astore 4, 2) := by decide +kernel
theorem d_Lw_ask_19 : decode b_Lw_ask 19 = .ok (.iconst 2, 1) := by decide +kernel
theorem d_Lw_ask_20 : decode b_Lw_ask 20 = .ok (.ireturn, 1) := by decide +kernel
theorem d_Lw_ask_21 : decode b_Lw_ask 21 = .ok (.astore 4, 2) := by decide +kernel
theorem d_Lw_ask_23 : decode b_Lw_ask 23 = .ok (.iconst 3, 1) := by decide +kernel
theorem d_Lw_ask_24 : decode b_Lw_ask 24 = .ok (.ireturn, 1) := by decide +kernel
theorem d_Lw_ask_25 : decode b_Lw_ask 25 = .ok (.iconst 0, 1) := by decide +kernel
theorem d_Lw_ask_26 : decode b_Lw_ask 26 = .ok (.ireturn, 1) := by decide +kernel
theorem d_Pk_ask_0 : decode b_Pk_ask 0 = .ok (.iload_n 1, 1) := by decide +kernel
theorem d_Pk_ask_1 : decode b_Pk_ask 1 = .ok (.iconst 1, 1) := by decide +kernel
theorem d_Pk_ask_2 : decode b_Pk_ask 2 = .ok (.if_icmp .lt 33, 3) := by decide +kernel
theorem d_Pk_ask_5 : decode b_Pk_ask 5 = .ok (.iload_n 1, 1) := by decide +kernel
theorem d_Pk_ask_6 : decode b_Pk_ask 6 = .ok (.sipush 999, 3) := by decide +kernel
theorem d_Pk_ask_9 : decode b_Pk_ask 9 = .ok (.if_icmp .gt 26, 3) := by decide +kernel
theorem d_Pk_ask_12 : decode b_Pk_ask 12 = .ok (.iload_n 2, 1) := by decide +kernel
theorem d_Pk_ask_13 : decode b_Pk_ask 13 = .ok (.iconst 1, 1) := by decide +kernel
theorem d_Pk_ask_14 : decode b_Pk_ask 14 = .ok (.if_icmp .lt 21, 3) := by decide +kernel
theorem d_Pk_ask_17 : decode b_Pk_ask 17 = .ok (.iload_n 2, 1) := by decide +kernel
theorem d_Pk_ask_18 : decode b_Pk_ask 18 = .ok (.bipush 40, 2) := by decide +kernel
theorem d_Pk_ask_20 : decode b_Pk_ask 20 = .ok (.if_icmp .gt 15, 3) := by decide +kernel
theorem d_Pk_ask_23 : decode b_Pk_ask 23 = .ok (.aload_n 0, 1) := by decide +kernel
theorem d_Pk_ask_24 : decode b_Pk_ask 24 = .ok (.getfield 23, 3) := by decide +kernel
theorem d_Pk_ask_27 : decode b_Pk_ask 27 = .ok (.iload_n 1, 1) := by decide +kernel
theorem d_Pk_ask_28 : decode b_Pk_ask 28 = .ok (.invokevirtual 57, 3) := by decide +kernel
theorem d_Pk_ask_31 : decode b_Pk_ask 31 = .ok (.iconst (-1), 1) := by decide +kernel
theorem d_Pk_ask_32 : decode b_Pk_ask 32 = .ok (.if_icmp .eq 11, 3) := by decide +kernel
theorem d_Pk_ask_35 : decode b_Pk_ask 35 = .ok (.new 61, 3) := by decide +kernel
theorem d_Pk_ask_38 : decode b_Pk_ask 38 = .ok (.dup, 1) := by decide +kernel
theorem d_Pk_ask_39 : decode b_Pk_ask 39 = .ok (.invokespecial 63, 3) := by decide +kernel
theorem d_Pk_ask_42 : decode b_Pk_ask 42 = .ok (.athrow, 1) := by decide +kernel
theorem d_Pk_ask_43 : decode b_Pk_ask 43 = .ok (.aload_n 0, 1) := by decide +kernel
theorem d_Pk_ask_44 : decode b_Pk_ask 44 = .ok (.getfield 40, 3) := by decide +kernel
theorem d_Pk_ask_47 : decode b_Pk_ask 47 = .ok (.ifCond .eq 11, 3) := by decide +kernel
theorem d_Pk_ask_50 : decode b_Pk_ask 50 = .ok (.new 64, 3) := by decide +kernel
theorem d_Pk_ask_53 : decode b_Pk_ask 53 = .ok (.dup, 1) := by decide +kernel
theorem d_Pk_ask_54 : decode b_Pk_ask 54 = .ok (.invokespecial 66, 3) := by decide +kernel
theorem d_Pk_ask_57 : decode b_Pk_ask 57 = .ok (.athrow, 1) := by decide +kernel
theorem d_Pk_ask_58 : decode b_Pk_ask 58 = .ok (.aload_n 0, 1) := by decide +kernel
theorem d_Pk_ask_59 : decode b_Pk_ask 59 = .ok (.getfield 23, 3) := by decide +kernel
theorem d_Pk_ask_62 : decode b_Pk_ask 62 = .ok (.invokevirtual 67, 3) := by decide +kernel
theorem d_Pk_ask_65 : decode b_Pk_ask 65 = .ok (.bipush 10, 2) := by decide +kernel
theorem d_Pk_ask_67 : decode b_Pk_ask 67 = .ok (.if_icmp .lt 11, 3) := by decide +kernel
theorem d_Pk_ask_70 : decode b_Pk_ask 70 = .ok (.new 71, 3) := by decide +kernel
theorem d_Pk_ask_73 : decode b_Pk_ask 73 = .ok (.dup, 1) := by decide +kernel
theorem d_Pk_ask_74 : decode b_Pk_ask 74 = .ok (.invokespecial 73, 3) := by decide +kernel
theorem d_Pk_ask_77 : decode b_Pk_ask 77 = .ok (.athrow, 1) := by decide +kernel
theorem d_Pk_ask_78 : decode b_Pk_ask 78 = .ok (.aload_n 0, 1) := by decide +kernel
theorem d_Pk_ask_79 : decode b_Pk_ask 79 = .ok (.getfield 27, 3) := by decide +kernel
theorem d_Pk_ask_82 : decode b_Pk_ask 82 = .ok (.aload_n 0, 1) := by decide +kernel
theorem d_Pk_ask_83 : decode b_Pk_ask 83 = .ok (.getfield 23, 3) := by decide +kernel
theorem d_Pk_ask_86 : decode b_Pk_ask 86 = .ok (.invokevirtual 74, 3) := by decide +kernel
theorem d_Pk_ask_89 : decode b_Pk_ask 89 = .ok (.aload_n 0, 1) := by decide +kernel
theorem d_Pk_ask_90 : decode b_Pk_ask 90 = .ok (.getfield 27, 3) := by decide +kernel
theorem d_Pk_ask_93 : decode b_Pk_ask 93 = .ok (.iload_n 1, 1) := by decide +kernel
theorem d_Pk_ask_94 : decode b_Pk_ask 94 = .ok (.iload_n 2, 1) := by decide +kernel
theorem d_Pk_ask_95 : decode b_Pk_ask 95 = .ok (.invokevirtual 78, 3) := by decide +kernel
theorem d_Pk_ask_98 : decode b_Pk_ask 98 = .ok (.aload_n 0, 1) := by decide +kernel
theorem d_Pk_ask_99 : decode b_Pk_ask 99 = .ok (.invokevirtual 82, 3) := by decide +kernel
theorem d_Pk_ask_102 : decode b_Pk_ask 102 = .ok (.istore_n 3, 1) := by decide +kernel
theorem d_Pk_ask_103 : decode b_Pk_ask 103 = .ok (.iload_n 3, 1) := by decide +kernel
theorem d_Pk_ask_104 : decode b_Pk_ask 104 = .ok (.iconst (-1), 1) := by decide +kernel
theorem d_Pk_ask_105 : decode b_Pk_ask 105 = .ok (.if_icmp .ne 11, 3) := by decide +kernel
theorem d_Pk_ask_108 : decode b_Pk_ask 108 = .ok (.new 71, 3) := by decide +kernel
theorem d_Pk_ask_111 : decode b_Pk_ask 111 = .ok (.dup, 1) := by decide +kernel
theorem d_Pk_ask_112 : decode b_Pk_ask 112 = .ok (.invokespecial 73, 3) := by decide +kernel
theorem d_Pk_ask_115 : decode b_Pk_ask 115 = .ok (.athrow, 1) := by decide +kernel
theorem d_Pk_ask_116 : decode b_Pk_ask 116 = .ok (.aload_n 0, 1) := by decide +kernel
theorem d_Pk_ask_117 : decode b_Pk_ask 117 = .ok (.iload_n 3, 1) := by decide +kernel
theorem d_Pk_ask_118 : decode b_Pk_ask 118 = .ok (.invokevirtual 85, 3) := by decide +kernel
theorem d_Pk_ask_121 : decode b_Pk_ask 121 = .ok (.ireturn, 1) := by decide +kernel
theorem d_Cl_copyFrom_0 : decode b_Cl_copyFrom 0 = .ok (.aload_n 0, 1) := by decide +kernel
theorem d_Cl_copyFrom_1 : decode b_Cl_copyFrom 1 = .ok (.aload_n 1, 1) := by decide +kernel
theorem d_Cl_copyFrom_2 : decode b_Cl_copyFrom 2 = .ok (.getfield 24, 3) := by decide +kernel
theorem d_Cl_copyFrom_5 : decode b_Cl_copyFrom 5 = .ok (.putfield 24, 3) := by decide +kernel
theorem d_Cl_copyFrom_8 : decode b_Cl_copyFrom 8 = .ok (.iconst 0, 1) := by decide +kernel
theorem d_Cl_copyFrom_9 : decode b_Cl_copyFrom 9 = .ok (.istore_n 2, 1) := by decide +kernel
theorem d_Cl_copyFrom_10 : decode b_Cl_copyFrom 10 = .ok (.iload_n 2, 1) := by decide +kernel
theorem d_Cl_copyFrom_11 : decode b_Cl_copyFrom 11 = .ok (.aload_n 0, 1) := by decide +kernel
theorem d_Cl_copyFrom_12 : decode b_Cl_copyFrom 12 = .ok (.getfield 24, 3) := by decide +kernel
theorem d_Cl_copyFrom_15 : decode b_Cl_copyFrom 15 = .ok (.if_icmp .ge 16, 3) := by decide +kernel
theorem d_Cl_copyFrom_18 : decode b_Cl_copyFrom 18 = .ok (.aload_n 0, 1) := by decide +kernel
theorem d_Cl_copyFrom_19 : decode b_Cl_copyFrom 19 = .ok (.iload_n 2, 1) := by decide +kernel
theorem d_Cl_copyFrom_20 : decode b_Cl_copyFrom 20 = .ok (.aload_n 1, 1) := by decide +kernel
theorem d_Cl_copyFrom_21 : decode b_Cl_copyFrom 21 = .ok (.iload_n 2, 1) := by decide +kernel
theorem d_Cl_copyFrom_22 : decode b_Cl_copyFrom 22 = .ok (.invokevirtual 34, 3) := by decide +kernel
theorem d_Cl_copyFrom_25 : decode b_Cl_copyFrom 25 = .ok (.iinc 2 1, 3) := by decide +kernel
theorem d_Cl_copyFrom_28 : decode b_Cl_copyFrom 28 = .ok (.goto (-18), 3) := by decide +kernel
theorem d_Cl_copyFrom_31 : decode b_Cl_copyFrom 31 = .ok (.return_, 1) := by decide +kernel
theorem d_Cl_insert_0 : decode b_Cl_insert 0 = .ok (.aload_n 0, 1) := by decide +kernel
theorem d_Cl_insert_1 : decode b_Cl_insert 1 = .ok (.getfield 24, 3) := by decide +kernel
theorem d_Cl_insert_4 : decode b_Cl_insert 4 = .ok (.istore_n 3, 1) := by decide +kernel
theorem d_Cl_insert_5 : decode b_Cl_insert 5 = .ok (.iload_n 3, 1) := by decide +kernel
theorem d_Cl_insert_6 : decode b_Cl_insert 6 = .ok (.ifCond .le 30, 3) := by decide +kernel
theorem d_Cl_insert_9 : decode b_Cl_insert 9 = .ok (.aload_n 0, 1) := by decide +kernel
theorem d_Cl_insert_10 : decode b_Cl_insert 10 = .ok (.getfield 9, 3) := by decide +kernel
theorem d_Cl_insert_13 : decode b_Cl_insert 13 = .ok (.iload_n 3, 1) := by decide +kernel
theorem d_Cl_insert_14 : decode b_Cl_insert 14 = .ok (.iconst 1, 1) := by decide +kernel
theorem d_Cl_insert_15 : decode b_Cl_insert 15 = .ok (.isub, 1) := by decide +kernel
theorem d_Cl_insert_16 : decode b_Cl_insert 16 = .ok (.iaload, 1) := by decide +kernel
theorem d_Cl_insert_17 : decode b_Cl_insert 17 = .ok (.iload_n 1, 1) := by decide +kernel
theorem d_Cl_insert_18 : decode b_Cl_insert 18 = .ok (.if_icmp .le 18, 3) := by decide +kernel
theorem d_Cl_insert_21 : decode b_Cl_insert 21 = .ok (.aload_n 0, 1) := by decide +kernel
theorem d_Cl_insert_22 : decode b_Cl_insert 22 = .ok (.iload_n 3, 1) := by decide +kernel
theorem d_Cl_insert_23 : decode b_Cl_insert 23 = .ok (.aload_n 0, 1) := by decide +kernel
theorem d_Cl_insert_24 : decode b_Cl_insert 24 = .ok (.iload_n 3, 1) := by decide +kernel
theorem d_Cl_insert_25 : decode b_Cl_insert 25 = .ok (.iconst 1, 1) := by decide +kernel
theorem d_Cl_insert_26 : decode b_Cl_insert 26 = .ok (.isub, 1) := by decide +kernel
theorem d_Cl_insert_27 : decode b_Cl_insert 27 = .ok (.invokevirtual 34, 3) := by decide +kernel
theorem d_Cl_insert_30 : decode b_Cl_insert 30 = .ok (.iinc 3 (-1), 3) := by decide +kernel
theorem d_Cl_insert_33 : decode b_Cl_insert 33 = .ok (.goto (-28), 3) := by decide +kernel
theorem d_Cl_insert_36 : decode b_Cl_insert 36 = .ok (.aload_n 0, 1) := by decide +kernel
theorem d_Cl_insert_37 : decode b_Cl_insert 37 = .ok (.getfield 9, 3) := by decide +kernel
theorem d_Cl_insert_40 : decode b_Cl_insert 40 = .ok (.iload_n 3, 1) := by decide +kernel
theorem d_Cl_insert_41 : decode b_Cl_insert 41 = .ok (.iload_n 1, 1) := by decide +kernel
theorem d_Cl_insert_42 : decode b_Cl_insert 42 = .ok (.iastore, 1) := by decide +kernel
theorem d_Cl_insert_43 : decode b_Cl_insert 43 = .ok (.aload_n 0, 1) := by decide +kernel
theorem d_Cl_insert_44 : decode b_Cl_insert 44 = .ok (.getfield 15, 3) := by decide +kernel
theorem d_Cl_insert_47 : decode b_Cl_insert 47 = .ok (.iload_n 3, 1) := by decide +kernel
theorem d_Cl_insert_48 : decode b_Cl_insert 48 = .ok (.iload_n 2, 1) := by decide +kernel
theorem d_Cl_insert_49 : decode b_Cl_insert 49 = .ok (.iastore, 1) := by decide +kernel
theorem d_Cl_insert_50 : decode b_Cl_insert 50 = .ok (.aload_n 0, 1) := by decide +kernel
theorem d_Cl_insert_51 : decode b_Cl_insert 51 = .ok (.getfield 18, 3) := by decide +kernel
theorem d_Cl_insert_54 : decode b_Cl_insert 54 = .ok (.iload_n 3, 1) := by decide +kernel
theorem d_Cl_insert_55 : decode b_Cl_insert 55 = .ok (.iconst 0, 1) := by decide +kernel
theorem d_Cl_insert_56 : decode b_Cl_insert 56 = .ok (.iastore, 1) := by decide +kernel
theorem d_Cl_insert_57 : decode b_Cl_insert 57 = .ok (.aload_n 0, 1) := by decide +kernel
theorem d_Cl_insert_58 : decode b_Cl_insert 58 = .ok (.getfield 21, 3) := by decide +kernel
theorem d_Cl_insert_61 : decode b_Cl_insert 61 = .ok (.iload_n 3, 1) := by decide +kernel
theorem d_Cl_insert_62 : decode b_Cl_insert 62 = .ok (.iconst 0, 1) := by decide +kernel
theorem d_Cl_insert_63 : decode b_Cl_insert 63 = .ok (.iastore, 1) := by decide +kernel
theorem d_Cl_insert_64 : decode b_Cl_insert 64 = .ok (.aload_n 0, 1) := by decide +kernel
theorem d_Cl_insert_65 : decode b_Cl_insert 65 = .ok (.dup, 1) := by decide +kernel
theorem d_Cl_insert_66 : decode b_Cl_insert 66 = .ok (.getfield 24, 3) := by decide +kernel
theorem d_Cl_insert_69 : decode b_Cl_insert 69 = .ok (.iconst 1, 1) := by decide +kernel
theorem d_Cl_insert_70 : decode b_Cl_insert 70 = .ok (.iadd, 1) := by decide +kernel
theorem d_Cl_insert_71 : decode b_Cl_insert 71 = .ok (.putfield 24, 3) := by decide +kernel
theorem d_Cl_insert_74 : decode b_Cl_insert 74 = .ok (.return_, 1) := by decide +kernel
theorem d_Pk_layPlanned_0 : decode b_Pk_layPlanned 0 = .ok (.aload_n 0, 1) := by decide +kernel
theorem d_Pk_layPlanned_1 : decode b_Pk_layPlanned 1 = .ok (.getfield 10, 3) := by decide +kernel
theorem d_Pk_layPlanned_4 : decode b_Pk_layPlanned 4 = .ok (.aload_n 0, 1) := by decide +kernel
theorem d_Pk_layPlanned_5 : decode b_Pk_layPlanned 5 = .ok (.getfield 27, 3) := by decide +kernel
theorem d_Pk_layPlanned_8 : decode b_Pk_layPlanned 8 = .ok (.aload_n 0, 1) := by decide +kernel
theorem d_Pk_layPlanned_9 : decode b_Pk_layPlanned 9 = .ok (.getfield 37, 3) := by decide +kernel
theorem d_Pk_layPlanned_12 : decode b_Pk_layPlanned 12 = .ok (.invokevirtual 147, 3) := by decide +kernel
theorem d_Pk_layPlanned_15 : decode b_Pk_layPlanned 15 = .ok (.ifCond .eq 5, 3) := by decide +kernel
theorem d_Pk_layPlanned_18 : decode b_Pk_layPlanned 18 = .ok (.iconst 1, 1) := by decide +kernel
theorem d_Pk_layPlanned_19 : decode b_Pk_layPlanned 19 = .ok (.ireturn, 1) := by decide +kernel
theorem d_Pk_layPlanned_20 : decode b_Pk_layPlanned 20 = .ok (.aload_n 0, 1) := by decide +kernel
theorem d_Pk_layPlanned_21 : decode b_Pk_layPlanned 21 = .ok (.getfield 10, 3) := by decide +kernel
theorem d_Pk_layPlanned_24 : decode b_Pk_layPlanned 24 = .ok (.aload_n 0, 1) := by decide +kernel
theorem d_Pk_layPlanned_25 : decode b_Pk_layPlanned 25 = .ok (.getfield 27, 3) := by decide +kernel
theorem d_Pk_layPlanned_28 : decode b_Pk_layPlanned 28 = .ok (.aload_n 0, 1) := by decide +kernel
theorem d_Pk_layPlanned_29 : decode b_Pk_layPlanned 29 = .ok (.getfield 37, 3) := by decide +kernel
theorem d_Pk_layPlanned_32 : decode b_Pk_layPlanned 32 = .ok (.invokevirtual 151, 3) := by decide +kernel
theorem d_Pk_layPlanned_35 : decode b_Pk_layPlanned 35 = .ok (.ifCond .eq 5, 3) := by decide +kernel
theorem d_Pk_layPlanned_38 : decode b_Pk_layPlanned 38 = .ok (.iconst 2, 1) := by decide +kernel
theorem d_Pk_layPlanned_39 : decode b_Pk_layPlanned 39 = .ok (.ireturn, 1) := by decide +kernel
theorem d_Pk_layPlanned_40 : decode b_Pk_layPlanned 40 = .ok (.aload_n 0, 1) := by decide +kernel
theorem d_Pk_layPlanned_41 : decode b_Pk_layPlanned 41 = .ok (.invokevirtual 130, 3) := by decide +kernel
theorem d_Pk_layPlanned_44 : decode b_Pk_layPlanned 44 = .ok (.aload_n 0, 1) := by decide +kernel
theorem d_Pk_layPlanned_45 : decode b_Pk_layPlanned 45 = .ok (.getfield 27, 3) := by decide +kernel
theorem d_Pk_layPlanned_48 : decode b_Pk_layPlanned 48 = .ok (.aload_n 0, 1) := by decide +kernel
theorem d_Pk_layPlanned_49 : decode b_Pk_layPlanned 49 = .ok (.getfield 37, 3) := by decide +kernel
theorem d_Pk_layPlanned_52 : decode b_Pk_layPlanned 52 = .ok (.invokevirtual 154, 3) := by decide +kernel
theorem d_Pk_layPlanned_55 : decode b_Pk_layPlanned 55 = .ok (.ifCond .eq 7, 3) := by decide +kernel
theorem d_Pk_layPlanned_58 : decode b_Pk_layPlanned 58 = .ok (.iconst 3, 1) := by decide +kernel
theorem d_Pk_layPlanned_59 : decode b_Pk_layPlanned 59 = .ok (.goto 4, 3) := by decide +kernel
theorem d_Pk_layPlanned_62 : decode b_Pk_layPlanned 62 = .ok (.iconst (-1), 1) := by decide +kernel
theorem d_Pk_layPlanned_63 : decode b_Pk_layPlanned 63 = .ok (.ireturn, 1) := by decide +kernel
theorem d_Rb_layByPowers_0 : decode b_Rb_layByPowers 0 = .ok (.aload_n 0, 1) := by decide +kernel
theorem d_Rb_layByPowers_1 : decode b_Rb_layByPowers 1 = .ok (.iconst 1, 1) := by decide +kernel
theorem d_Rb_layByPowers_2 : decode b_Rb_layByPowers 2 = .ok (.aload_n 1, 1) := by decide +kernel
theorem d_Rb_layByPowers_3 : decode b_Rb_layByPowers 3 = .ok (.aload_n 2, 1) := by decide +kernel
theorem d_Rb_layByPowers_4 : decode b_Rb_layByPowers 4 = .ok (.invokevirtual 15, 3) := by decide +kernel
theorem d_Rb_layByPowers_7 : decode b_Rb_layByPowers 7 = .ok (.ireturn, 1) := by decide +kernel
theorem d_Rb_layWithBase_0 : decode b_Rb_layWithBase 0 = .ok (.aload_n 0, 1) := by decide +kernel
theorem d_Rb_layWithBase_1 : decode b_Rb_layWithBase 1 = .ok (.iload_n 1, 1) := by decide +kernel
theorem d_Rb_layWithBase_2 : decode b_Rb_layWithBase 2 = .ok (.aload_n 2, 1) := by decide +kernel
theorem d_Rb_layWithBase_3 : decode b_Rb_layWithBase 3 = .ok (.invokevirtual 28, 3) := by decide +kernel
theorem d_Rb_layWithBase_6 : decode b_Rb_layWithBase 6 = .ok (.istore 4, 2) := by decide +kernel
theorem d_Rb_layWithBase_8 : decode b_Rb_layWithBase 8 = .ok (.aload_n 0, 1) := by decide +kernel
theorem d_Rb_layWithBase_9 : decode b_Rb_layWithBase 9 = .ok (.aload_n 2, 1) := by decide +kernel
theorem d_Rb_layWithBase_10 : decode b_Rb_layWithBase 10 = .ok (.invokevirtual 32, 3) := by decide +kernel
theorem d_Rb_layWithBase_13 : decode b_Rb_layWithBase 13 = .ok (.iload 4, 2) := by decide +kernel
theorem d_Rb_layWithBase_15 : decode b_Rb_layWithBase 15 = .ok (.invokevirtual 35, 3) := by decide +kernel
theorem d_Rb_layWithBase_18 : decode b_Rb_layWithBase 18 = .ok (.iload 4, 2) := by decide +kernel
theorem d_Rb_layWithBase_20 : decode b_Rb_layWithBase 20 = .ok (.if_icmp .le 5, 3) := by decide +kernel
theorem d_Rb_layWithBase_23 : decode b_Rb_layWithBase 23 = .ok (.iconst 0, 1) := by decide +kernel
theorem d_Rb_layWithBase_24 : decode b_Rb_layWithBase 24 = .ok (.ireturn, 1) := by decide +kernel
theorem d_Rb_layWithBase_25 : decode b_Rb_layWithBase 25 = .ok (.aload_n 3, 1) := by decide +kernel
theorem d_Rb_layWithBase_26 : decode b_Rb_layWithBase 26 = .ok (.iload 4, 2) := by decide +kernel
theorem d_Rb_layWithBase_28 : decode b_Rb_layWithBase 28 = .ok (.invokevirtual 39, 3) := by decide +kernel
theorem d_Rb_layWithBase_31 : decode b_Rb_layWithBase 31 = .ok (.iload_n 1, 1) := by decide +kernel
theorem d_Rb_layWithBase_32 : decode b_Rb_layWithBase 32 = .ok (.istore 5, 2) := by decide +kernel
theorem d_Rb_layWithBase_34 : decode b_Rb_layWithBase 34 = .ok (.iconst 0, 1) := by decide +kernel
theorem d_Rb_layWithBase_35 : decode b_Rb_layWithBase 35 = .ok (.istore 6, 2) := by decide +kernel
theorem d_Rb_layWithBase_37 : decode b_Rb_layWithBase 37 = .ok (.iload 6, 2) := by decide +kernel
theorem d_Rb_layWithBase_39 : decode b_Rb_layWithBase 39 = .ok (.bipush 6, 2) := by decide +kernel
theorem d_Rb_layWithBase_41 : decode b_Rb_layWithBase 41 = .ok (.if_icmp .gt 30, 3) := by decide +kernel
theorem d_Rb_layWithBase_44 : decode b_Rb_layWithBase 44 = .ok (.iload 5, 2) := by decide +kernel
theorem d_Rb_layWithBase_46 : decode b_Rb_layWithBase 46 = .ok (.iload 4, 2) := by decide +kernel
theorem d_Rb_layWithBase_48 : decode b_Rb_layWithBase 48 = .ok (.if_icmp .gt 23, 3) := by decide +kernel
theorem d_Rb_layWithBase_51 : decode b_Rb_layWithBase 51 = .ok (.aload_n 0, 1) := by decide +kernel
theorem d_Rb_layWithBase_52 : decode b_Rb_layWithBase 52 = .ok (.iload 5, 2) := by decide +kernel
theorem d_Rb_layWithBase_54 : decode b_Rb_layWithBase 54 = .ok (.aload_n 2, 1) := by decide +kernel
theorem d_Rb_layWithBase_55 : decode b_Rb_layWithBase 55 = .ok (.aload_n 3, 1) := by decide +kernel
theorem d_Rb_layWithBase_56 : decode b_Rb_layWithBase 56 = .ok (.invokevirtual 45, 3) := by decide +kernel
theorem d_Rb_layWithBase_59 : decode b_Rb_layWithBase 59 = .ok (.iload 5, 2) := by decide +kernel
theorem d_Rb_layWithBase_61 : decode b_Rb_layWithBase 61 = .ok (.iconst 2, 1) := by decide +kernel
theorem d_Rb_layWithBase_62 : decode b_Rb_layWithBase 62 = .ok (.imul, 1) := by decide +kernel
theorem d_Rb_layWithBase_63 : decode b_Rb_layWithBase 63 = .ok (.istore 5, 2) := by decide +kernel
theorem d_Rb_layWithBase_65 : decode b_Rb_layWithBase 65 = .ok (.iinc 6 1, 3) := by decide +kernel
theorem d_Rb_layWithBase_68 : decode b_Rb_layWithBase 68 = .ok (.goto (-31), 3) := by decide +kernel
theorem d_Rb_layWithBase_71 : decode b_Rb_layWithBase 71 = .ok (.iconst 1, 1) := by decide +kernel
theorem d_Rb_layWithBase_72 : decode b_Rb_layWithBase 72 = .ok (.ireturn, 1) := by decide +kernel
theorem d_Rb_roundAll_0 : decode b_Rb_roundAll 0 = .ok (.iconst 1, 1) := by decide +kernel
theorem d_Rb_roundAll_1 : decode b_Rb_roundAll 1 = .ok (.istore_n 3, 1) := by decide +kernel
theorem d_Rb_roundAll_2 : decode b_Rb_roundAll 2 = .ok (.iconst 0, 1) := by decide +kernel
theorem d_Rb_roundAll_3 : decode b_Rb_roundAll 3 = .ok (.istore 4, 2) := by decide +kernel
theorem d_Rb_roundAll_5 : decode b_Rb_roundAll 5 = .ok (.iload 4, 2) := by decide +kernel
theorem d_Rb_roundAll_7 : decode b_Rb_roundAll 7 = .ok (.aload_n 2, 1) := by decide +kernel
theorem d_Rb_roundAll_8 : decode b_Rb_roundAll 8 = .ok (.invokevirtual 32, 3) := by decide +kernel
theorem d_Rb_roundAll_11 : decode b_Rb_roundAll 11 = .ok (.if_icmp .ge 38, 3) := by decide +kernel
theorem d_Rb_roundAll_14 : decode b_Rb_roundAll 14 = .ok (.aload_n 0, 1) := by decide +kernel
theorem d_Rb_roundAll_15 : decode b_Rb_roundAll 15 = .ok (.getfield 9, 3) := by decide +kernel
theorem d_Rb_roundAll_18 : decode b_Rb_roundAll 18 = .ok (.iload 4, 2) := by decide +kernel
theorem d_Rb_roundAll_20 : decode b_Rb_roundAll 20 = .ok (.aload_n 2, 1) := by decide +kernel
theorem d_Rb_roundAll_21 : decode b_Rb_roundAll 21 = .ok (.iload 4, 2) := by decide +kernel
theorem d_Rb_roundAll_23 : decode b_Rb_roundAll 23 = .ok (.invokevirtual 49, 3) := by decide +kernel
theorem d_Rb_roundAll_26 : decode b_Rb_roundAll 26 = .ok (.iload_n 1, 1) := by decide +kernel
theorem d_Rb_roundAll_27 : decode b_Rb_roundAll 27 = .ok (.invokestatic 53, 3) := by decide +kernel
theorem d_Rb_roundAll_30 : decode b_Rb_roundAll 30 = .ok (.iastore, 1) := by decide +kernel
theorem d_Rb_roundAll_31 : decode b_Rb_roundAll 31 = .ok (.iload_n 3, 1) := by decide +kernel
theorem d_Rb_roundAll_32 : decode b_Rb_roundAll 32 = .ok (.aload_n 0, 1) := by decide +kernel
theorem d_Rb_roundAll_33 : decode b_Rb_roundAll 33 = .ok (.getfield 9, 3) := by decide +kernel
theorem d_Rb_roundAll_36 : decode b_Rb_roundAll 36 = .ok (.iload 4, 2) := by decide +kernel
theorem d_Rb_roundAll_38 : decode b_Rb_roundAll 38 = .ok (.iaload, 1) := by decide +kernel
theorem d_Rb_roundAll_39 : decode b_Rb_roundAll 39 = .ok (.invokestatic 56, 3) := by decide +kernel
theorem d_Rb_roundAll_42 : decode b_Rb_roundAll 42 = .ok (.istore_n 3, 1) := by decide +kernel
theorem d_Rb_roundAll_43 : decode b_Rb_roundAll 43 = .ok (.iinc 4 1, 3) := by decide +kernel
theorem d_Rb_roundAll_46 : decode b_Rb_roundAll 46 = .ok (.goto (-41), 3) := by decide +kernel
theorem d_Rb_roundAll_49 : decode b_Rb_roundAll 49 = .ok (.iload_n 3, 1) := by decide +kernel
theorem d_Rb_roundAll_50 : decode b_Rb_roundAll 50 = .ok (.ireturn, 1) := by decide +kernel
theorem d_Rb_roundDown_0 : decode b_Rb_roundDown 0 = .ok (.iload_n 1, 1) := by decide +kernel
theorem d_Rb_roundDown_1 : decode b_Rb_roundDown 1 = .ok (.istore_n 2, 1) := by decide +kernel
theorem d_Rb_roundDown_2 : decode b_Rb_roundDown 2 = .ok (.iconst 0, 1) := by decide +kernel
theorem d_Rb_roundDown_3 : decode b_Rb_roundDown 3 = .ok (.istore_n 3, 1) := by decide +kernel
theorem d_Rb_roundDown_4 : decode b_Rb_roundDown 4 = .ok (.iload_n 3, 1) := by decide +kernel
theorem d_Rb_roundDown_5 : decode b_Rb_roundDown 5 = .ok (.bipush 6, 2) := by decide +kernel
theorem d_Rb_roundDown_7 : decode b_Rb_roundDown 7 = .ok (.if_icmp .ge 20, 3) := by decide +kernel
theorem d_Rb_roundDown_10 : decode b_Rb_roundDown 10 = .ok (.iload_n 2, 1) := by decide +kernel
theorem d_Rb_roundDown_11 : decode b_Rb_roundDown 11 = .ok (.iconst 2, 1) := by decide +kernel
theorem d_Rb_roundDown_12 : decode b_Rb_roundDown 12 = .ok (.imul, 1) := by decide +kernel
theorem d_Rb_roundDown_13 : decode b_Rb_roundDown 13 = .ok (.iload_n 0, 1) := by decide +kernel
theorem d_Rb_roundDown_14 : decode b_Rb_roundDown 14 = .ok (.if_icmp .gt 13, 3) := by decide +kernel
theorem d_Rb_roundDown_17 : decode b_Rb_roundDown 17 = .ok (.iload_n 2, 1) := by decide +kernel
theorem d_Rb_roundDown_18 : decode b_Rb_roundDown 18 = .ok (.iconst 2, 1) := by decide +kernel
theorem d_Rb_roundDown_19 : decode b_Rb_roundDown 19 = .ok (.imul, 1) := by decide +kernel
theorem d_Rb_roundDown_20 : decode b_Rb_roundDown 20 = .ok (.istore_n 2, 1) := by decide +kernel
theorem d_Rb_roundDown_21 : decode b_Rb_roundDown 21 = .ok (.iinc 3 1, 3) := by decide +kernel
theorem d_Rb_roundDown_24 : decode b_Rb_roundDown 24 = .ok (.goto (-20), 3) := by decide +kernel
theorem d_Rb_roundDown_27 : decode b_Rb_roundDown 27 = .ok (.iload_n 2, 1) := by decide +kernel
theorem d_Rb_roundDown_28 : decode b_Rb_roundDown 28 = .ok (.ireturn, 1) := by decide +kernel
theorem d_Rb_placesNeeded_0 : decode b_Rb_placesNeeded 0 = .ok (.iconst 0, 1) := by decide +kernel
theorem d_Rb_placesNeeded_1 : decode b_Rb_placesNeeded 1 = .ok (.istore_n 3, 1) := by decide +kernel
theorem d_Rb_placesNeeded_2 : decode b_Rb_placesNeeded 2 = .ok (.iconst 0, 1) := by decide +kernel
theorem d_Rb_placesNeeded_3 : decode b_Rb_placesNeeded 3 = .ok (.istore 4, 2) := by decide +kernel
theorem d_Rb_placesNeeded_5 : decode b_Rb_placesNeeded 5 = .ok (.iload 4, 2) := by decide +kernel
theorem d_Rb_placesNeeded_7 : decode b_Rb_placesNeeded 7 = .ok (.iload_n 1, 1) := by decide +kernel
theorem d_Rb_placesNeeded_8 : decode b_Rb_placesNeeded 8 = .ok (.if_icmp .ge 35, 3) := by decide +kernel
theorem d_Rb_placesNeeded_11 : decode b_Rb_placesNeeded 11 = .ok (.iload_n 3, 1) := by decide +kernel
theorem d_Rb_placesNeeded_12 : decode b_Rb_placesNeeded 12 = .ok (.aload_n 0, 1) := by decide +kernel
theorem d_Rb_placesNeeded_13 : decode b_Rb_placesNeeded 13 = .ok (.getfield 9, 3) := by decide +kernel
theorem d_Rb_placesNeeded_16 : decode b_Rb_placesNeeded 16 = .ok (.iload 4, 2) := by decide +kernel
theorem d_Rb_placesNeeded_18 : decode b_Rb_placesNeeded 18 = .ok (.iaload, 1) := by decide +kernel
theorem d_Rb_placesNeeded_19 : decode b_Rb_placesNeeded 19 = .ok (.ifCond .le 15, 3) := by decide +kernel
theorem d_Rb_placesNeeded_22 : decode b_Rb_placesNeeded 22 = .ok (.iload_n 2, 1) := by decide +kernel
theorem d_Rb_placesNeeded_23 : decode b_Rb_placesNeeded 23 = .ok (.aload_n 0, 1) := by decide +kernel
theorem d_Rb_placesNeeded_24 : decode b_Rb_placesNeeded 24 = .ok (.getfield 9, 3) := by decide +kernel
theorem d_Rb_placesNeeded_27 : decode b_Rb_placesNeeded 27 = .ok (.iload 4, 2) := by decide +kernel
theorem d_Rb_placesNeeded_29 : decode b_Rb_placesNeeded 29 = .ok (.iaload, 1) := by decide +kernel
theorem d_Rb_placesNeeded_30 : decode b_Rb_placesNeeded 30 = .ok (.idiv, 1) := by decide +kernel
theorem d_Rb_placesNeeded_31 : decode b_Rb_placesNeeded 31 = .ok (.goto 4, 3) := by decide +kernel
theorem d_Rb_placesNeeded_34 : decode b_Rb_placesNeeded 34 = .ok (.iconst 0, 1) := by decide +kernel
theorem d_Rb_placesNeeded_35 : decode b_Rb_placesNeeded 35 = .ok (.iadd, 1) := by decide +kernel
theorem d_Rb_placesNeeded_36 : decode b_Rb_placesNeeded 36 = .ok (.istore_n 3, 1) := by decide +kernel
theorem d_Rb_placesNeeded_37 : decode b_Rb_placesNeeded 37 = .ok (.iinc 4 1, 3) := by decide +kernel
theorem d_Rb_placesNeeded_40 : decode b_Rb_placesNeeded 40 = .ok (.goto (-35), 3) := by decide +kernel
theorem d_Rb_placesNeeded_43 : decode b_Rb_placesNeeded 43 = .ok (.iload_n 3, 1) := by decide +kernel
theorem d_Rb_placesNeeded_44 : decode b_Rb_placesNeeded 44 = .ok (.ireturn, 1) := by decide +kernel
theorem d_Cy_clear_0 : decode b_Cy_clear 0 = .ok (.aload_n 0, 1) := by decide +kernel
theorem d_Cy_clear_1 : decode b_Cy_clear 1 = .ok (.iload_n 1, 1) := by decide +kernel
theorem d_Cy_clear_2 : decode b_Cy_clear 2 = .ok (.invokevirtual 22, 3) := by decide +kernel
theorem d_Cy_clear_5 : decode b_Cy_clear 5 = .ok (.aload_n 0, 1) := by decide +kernel
theorem d_Cy_clear_6 : decode b_Cy_clear 6 = .ok (.getfield 9, 3) := by decide +kernel
theorem d_Cy_clear_9 : decode b_Cy_clear 9 = .ok (.iconst 0, 1) := by decide +kernel
theorem d_Cy_clear_10 : decode b_Cy_clear 10 = .ok (.aload_n 0, 1) := by decide +kernel
theorem d_Cy_clear_11 : decode b_Cy_clear 11 = .ok (.getfield 15, 3) := by decide +kernel
theorem d_Cy_clear_14 : decode b_Cy_clear 14 = .ok (.iconst 0, 1) := by decide +kernel
theorem d_Cy_clear_15 : decode b_Cy_clear 15 = .ok (.invokestatic 26, 3) := by decide +kernel
theorem d_Cy_clear_18 : decode b_Cy_clear 18 = .ok (.return_, 1) := by decide +kernel
theorem d_Cy_makeRoom_0 : decode b_Cy_makeRoom 0 = .ok (.iload_n 1, 1) := by decide +kernel
theorem d_Cy_makeRoom_1 : decode b_Cy_makeRoom 1 = .ok (.aload_n 0, 1) := by decide +kernel
theorem d_Cy_makeRoom_2 : decode b_Cy_makeRoom 2 = .ok (.getfield 9, 3) := by decide +kernel
theorem d_Cy_makeRoom_5 : decode b_Cy_makeRoom 5 = .ok (.arraylength, 1) := by decide +kernel
theorem d_Cy_makeRoom_6 : decode b_Cy_makeRoom 6 = .ok (.if_icmp .le 10, 3) := by decide +kernel
theorem d_Cy_makeRoom_9 : decode b_Cy_makeRoom 9 = .ok (.aload_n 0, 1) := by decide +kernel
theorem d_Cy_makeRoom_10 : decode b_Cy_makeRoom 10 = .ok (.iload_n 1, 1) := by decide +kernel
theorem d_Cy_makeRoom_11 : decode b_Cy_makeRoom 11 = .ok (.newarray .int, 2) := by decide +kernel
theorem d_Cy_makeRoom_13 : decode b_Cy_makeRoom 13 = .ok (.putfield 9, 3) := by decide +kernel
theorem d_Cy_makeRoom_16 : decode b_Cy_makeRoom 16 = .ok (.aload_n 0, 1) := by decide +kernel
theorem d_Cy_makeRoom_17 : decode b_Cy_makeRoom 17 = .ok (.iload_n 1, 1) := by decide +kernel
theorem d_Cy_makeRoom_18 : decode b_Cy_makeRoom 18 = .ok (.putfield 15, 3) := by decide +kernel
theorem d_Cy_makeRoom_21 : decode b_Cy_makeRoom 21 = .ok (.return_, 1) := by decide +kernel
theorem d_Ar_fill_0 : decode b_Ar_fill 0 = .ok (.aload_n 0, 1) := by decide +kernel
theorem d_Ar_fill_1 : decode b_Ar_fill 1 = .ok (.arraylength, 1) := by decide +kernel
theorem d_Ar_fill_2 : decode b_Ar_fill 2 = .ok (.iload_n 1, 1) := by decide +kernel
theorem d_Ar_fill_3 : decode b_Ar_fill 3 = .ok (.iload_n 2, 1) := by decide +kernel
theorem d_Ar_fill_4 : decode b_Ar_fill 4 = .ok (.invokestatic 13, 3) := by decide +kernel
theorem d_Ar_fill_7 : decode b_Ar_fill 7 = .ok (.iload_n 1, 1) := by decide +kernel
theorem d_Ar_fill_8 : decode b_Ar_fill 8 = .ok (.istore 4, 2) := by decide +kernel
theorem d_Ar_fill_10 : decode b_Ar_fill 10 = .ok (.iload 4, 2) := by decide +kernel
theorem d_Ar_fill_12 : decode b_Ar_fill 12 = .ok (.iload_n 2, 1) := by decide +kernel
theorem d_Ar_fill_13 : decode b_Ar_fill 13 = .ok (.if_icmp .ge 14, 3) := by decide +kernel
theorem d_Ar_fill_16 : decode b_Ar_fill 16 = .ok (.aload_n 0, 1) := by decide +kernel
theorem d_Ar_fill_17 : decode b_Ar_fill 17 = .ok (.iload 4, 2) := by decide +kernel
theorem d_Ar_fill_19 : decode b_Ar_fill 19 = .ok (.iload_n 3, 1) := by decide +kernel
theorem d_Ar_fill_20 : decode b_Ar_fill 20 = .ok (.iastore, 1) := by decide +kernel
theorem d_Ar_fill_21 : decode b_Ar_fill 21 = .ok (.iinc 4 1, 3) := by decide +kernel
theorem d_Ar_fill_24 : decode b_Ar_fill 24 = .ok (.goto (-14), 3) := by decide +kernel
theorem d_Ar_fill_27 : decode b_Ar_fill 27 = .ok (.return_, 1) := by decide +kernel
theorem d_Ar_rangeCheck_0 : decode b_Ar_rangeCheck 0 = .ok (.iload_n 1, 1) := by decide +kernel
theorem d_Ar_rangeCheck_1 : decode b_Ar_rangeCheck 1 = .ok (.iload_n 2, 1) := by decide +kernel
theorem d_Ar_rangeCheck_2 : decode b_Ar_rangeCheck 2 = .ok (.if_icmp .le 44, 3) := by decide +kernel
theorem d_Ar_rangeCheck_5 : decode b_Ar_rangeCheck 5 = .ok (.new 43, 3) := by decide +kernel
theorem d_Ar_rangeCheck_8 : decode b_Ar_rangeCheck 8 = .ok (.dup, 1) := by decide +kernel
theorem d_Ar_rangeCheck_9 : decode b_Ar_rangeCheck 9 = .ok (.new 45, 3) := by decide +kernel
theorem d_Ar_rangeCheck_12 : decode b_Ar_rangeCheck 12 = .ok (.dup, 1) := by decide +kernel
theorem d_Ar_rangeCheck_13 : decode b_Ar_rangeCheck 13 = .ok (.invokespecial 47, 3) := by decide +kernel
theorem d_Ar_rangeCheck_16 : decode b_Ar_rangeCheck 16 = .ok (.ldc 48, 2) := by decide +kernel
theorem d_Ar_rangeCheck_18 : decode b_Ar_rangeCheck 18 = .ok (.invokevirtual 50, 3) := by decide +kernel
theorem d_Ar_rangeCheck_21 : decode b_Ar_rangeCheck 21 = .ok (.iload_n 1, 1) := by decide +kernel
theorem d_Ar_rangeCheck_22 : decode b_Ar_rangeCheck 22 = .ok (.invokevirtual 54, 3) := by decide +kernel
theorem d_Ar_rangeCheck_25 : decode b_Ar_rangeCheck 25 = .ok (.ldc 57, 2) := by decide +kernel
theorem d_Ar_rangeCheck_27 : decode b_Ar_rangeCheck 27 = .ok (.invokevirtual 50, 3) := by decide +kernel
theorem d_Ar_rangeCheck_30 : decode b_Ar_rangeCheck 30 = .ok (.iload_n 2, 1) := by decide +kernel
theorem d_Ar_rangeCheck_31 : decode b_Ar_rangeCheck 31 = .ok (.invokevirtual 54, 3) := by decide +kernel
