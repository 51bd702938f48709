theorem d_Md_about_8 : decode b_Md_about 8 = .ok (.ifCond .ne 7, 3) := by decide +kernel
theorem d_Md_about_11 : decode b_Md_about 11 = .ok (.iconst 1, 1) := by decide +kernel
theorem d_Md_about_12 : decode b_Md_about 12 = .ok (.goto 4, 3) := by decide +kernel
theorem d_Md_about_15 : decode b_Md_about 15 = .ok (.iconst 0, 1) := by decide +kernel
theorem d_Md_about_16 : decode b_Md_about 16 = .ok (.iconst 0, 1) := by decide +kernel
theorem d_Md_about_17 : decode b_Md_about 17 = .ok (.iconst 0, 1) := by decide +kernel
theorem d_Md_about_18 : decode b_Md_about 18 = .ok (.invokevirtual 118, 3) := by decide +kernel
theorem d_Md_about_21 : decode b_Md_about 21 = .ok (.ifCond .eq 5, 3) := by decide +kernel
theorem d_Md_about_24 : decode b_Md_about 24 = .ok (.iconst 0, 1) := by decide +kernel
theorem d_Md_about_25 : decode b_Md_about 25 = .ok (.ireturn, 1) := by decide +kernel
theorem d_Md_about_26 : decode b_Md_about 26 = .ok (.iload_n 1, 1) := by decide +kernel
theorem d_Md_about_27 : decode b_Md_about 27 = .ok (.tableswitch 67 0 5 #[37, 42, 47, 52, 57, 62], 37) := by decide +kernel
theorem d_Md_about_64 : decode b_Md_about 64 = .ok (.aload_n 0, 1) := by decide +kernel
theorem d_Md_about_65 : decode b_Md_about 65 = .ok (.getfield 134, 3) := by decide +kernel
theorem d_Md_about_68 : decode b_Md_about 68 = .ok (.ireturn, 1) := by decide +kernel
theorem d_Md_about_69 : decode b_Md_about 69 = .ok (.aload_n 0, 1) := by decide +kernel
theorem d_Md_about_70 : decode b_Md_about 70 = .ok (.getfield 29, 3) := by decide +kernel
theorem d_Md_about_73 : decode b_Md_about 73 = .ok (.ireturn, 1) := by decide +kernel
theorem d_Md_about_74 : decode b_Md_about 74 = .ok (.aload_n 0, 1) := by decide +kernel
theorem d_Md_about_75 : decode b_Md_about 75 = .ok (.getfield 60, 3) := by decide +kernel
theorem d_Md_about_78 : decode b_Md_about 78 = .ok (.ireturn, 1) := by decide +kernel
theorem d_Md_about_79 : decode b_Md_about 79 = .ok (.aload_n 0, 1) := by decide +kernel
theorem d_Md_about_80 : decode b_Md_about 80 = .ok (.getfield 128, 3) := by decide +kernel
theorem d_Md_about_83 : decode b_Md_about 83 = .ok (.ireturn, 1) := by decide +kernel
theorem d_Md_about_84 : decode b_Md_about 84 = .ok (.aload_n 0, 1) := by decide +kernel
theorem d_Md_about_85 : decode b_Md_about 85 = .ok (.getfield 131, 3) := by decide +kernel
theorem d_Md_about_88 : decode b_Md_about 88 = .ok (.ireturn, 1) := by decide +kernel
theorem d_Md_about_89 : decode b_Md_about 89 = .ok (.aload_n 0, 1) := by decide +kernel
theorem d_Md_about_90 : decode b_Md_about 90 = .ok (.getfield 143, 3) := by decide +kernel
theorem d_Md_about_93 : decode b_Md_about 93 = .ok (.ireturn, 1) := by decide +kernel
theorem d_Md_about_94 : decode b_Md_about 94 = .ok (.aload_n 0, 1) := by decide +kernel
theorem d_Md_about_95 : decode b_Md_about 95 = .ok (.getfield 149, 3) := by decide +kernel
theorem d_Md_about_98 : decode b_Md_about 98 = .ok (.ireturn, 1) := by decide +kernel
theorem d_Md_client_0 : decode b_Md_client 0 = .ok (.aload_n 0, 1) := by decide +kernel
theorem d_Md_client_1 : decode b_Md_client 1 = .ok (.iload_n 1, 1) := by decide +kernel
theorem d_Md_client_2 : decode b_Md_client 2 = .ok (.iconst 0, 1) := by decide +kernel
theorem d_Md_client_3 : decode b_Md_client 3 = .ok (.aload_n 0, 1) := by decide +kernel
theorem d_Md_client_4 : decode b_Md_client 4 = .ok (.getfield 60, 3) := by decide +kernel
theorem d_Md_client_7 : decode b_Md_client 7 = .ok (.iconst 1, 1) := by decide +kernel
theorem d_Md_client_8 : decode b_Md_client 8 = .ok (.isub, 1) := by decide +kernel
theorem d_Md_client_9 : decode b_Md_client 9 = .ok (.invokestatic 111, 3) := by decide +kernel
theorem d_Md_client_12 : decode b_Md_client 12 = .ok (.ifCond .ne 7, 3) := by decide +kernel
theorem d_Md_client_15 : decode b_Md_client 15 = .ok (.iconst 1, 1) := by decide +kernel
theorem d_Md_client_16 : decode b_Md_client 16 = .ok (.goto 4, 3) := by decide +kernel
theorem d_Md_client_19 : decode b_Md_client 19 = .ok (.iconst 0, 1) := by decide +kernel
theorem d_Md_client_20 : decode b_Md_client 20 = .ok (.iconst 0, 1) := by decide +kernel
theorem d_Md_client_21 : decode b_Md_client 21 = .ok (.iconst 0, 1) := by decide +kernel
theorem d_Md_client_22 : decode b_Md_client 22 = .ok (.invokevirtual 118, 3) := by decide +kernel
theorem d_Md_client_25 : decode b_Md_client 25 = .ok (.ifCond .eq 7, 3) := by decide +kernel
theorem d_Md_client_28 : decode b_Md_client 28 = .ok (.iconst 0, 1) := by decide +kernel
theorem d_Md_client_29 : decode b_Md_client 29 = .ok (.goto 9, 3) := by decide +kernel
theorem d_Md_client_32 : decode b_Md_client 32 = .ok (.aload_n 0, 1) := by decide +kernel
theorem d_Md_client_33 : decode b_Md_client 33 = .ok (.getfield 7, 3) := by decide +kernel
theorem d_Md_client_36 : decode b_Md_client 36 = .ok (.iload_n 1, 1) := by decide +kernel
theorem d_Md_client_37 : decode b_Md_client 37 = .ok (.iaload, 1) := by decide +kernel
theorem d_Md_client_38 : decode b_Md_client 38 = .ok (.ireturn, 1) := by decide +kernel
theorem d_Md_density_0 : decode b_Md_density 0 = .ok (.aload_n 0, 1) := by decide +kernel
theorem d_Md_density_1 : decode b_Md_density 1 = .ok (.iload_n 1, 1) := by decide +kernel
theorem d_Md_density_2 : decode b_Md_density 2 = .ok (.iconst 0, 1) := by decide +kernel
theorem d_Md_density_3 : decode b_Md_density 3 = .ok (.iconst 1, 1) := by decide +kernel
theorem d_Md_density_4 : decode b_Md_density 4 = .ok (.invokestatic 111, 3) := by decide +kernel
theorem d_Md_density_7 : decode b_Md_density 7 = .ok (.ifCond .ne 7, 3) := by decide +kernel
theorem d_Md_density_10 : decode b_Md_density 10 = .ok (.iconst 1, 1) := by decide +kernel
theorem d_Md_density_11 : decode b_Md_density 11 = .ok (.goto 4, 3) := by decide +kernel
theorem d_Md_density_14 : decode b_Md_density 14 = .ok (.iconst 0, 1) := by decide +kernel
theorem d_Md_density_15 : decode b_Md_density 15 = .ok (.iconst 0, 1) := by decide +kernel
theorem d_Md_density_16 : decode b_Md_density 16 = .ok (.iconst 0, 1) := by decide +kernel
theorem d_Md_density_17 : decode b_Md_density 17 = .ok (.invokevirtual 118, 3) := by decide +kernel
theorem d_Md_density_20 : decode b_Md_density 20 = .ok (.ifCond .eq 5, 3) := by decide +kernel
theorem d_Md_density_23 : decode b_Md_density 23 = .ok (.lconst 0, 1) := by decide +kernel
theorem d_Md_density_24 : decode b_Md_density 24 = .ok (.lreturn, 1) := by decide +kernel
theorem d_Md_density_25 : decode b_Md_density 25 = .ok (.lconst 0, 1) := by decide +kernel
theorem d_Md_density_26 : decode b_Md_density 26 = .ok (.lstore_n 2, 1) := by decide +kernel
theorem d_Md_density_27 : decode b_Md_density 27 = .ok (.lconst 1, 1) := by decide +kernel
theorem d_Md_density_28 : decode b_Md_density 28 = .ok (.lstore 4, 2) := by decide +kernel
theorem d_Md_density_30 : decode b_Md_density 30 = .ok (.iconst 0, 1) := by decide +kernel
theorem d_Md_density_31 : decode b_Md_density 31 = .ok (.istore 6, 2) := by decide +kernel
theorem d_Md_density_33 : decode b_Md_density 33 = .ok (.iload 6, 2) := by decide +kernel
theorem d_Md_density_35 : decode b_Md_density 35 = .ok (.aload_n 0, 1) := by decide +kernel
theorem d_Md_density_36 : decode b_Md_density 36 = .ok (.getfield 60, 3) := by decide +kernel
theorem d_Md_density_39 : decode b_Md_density 39 = .ok (.if_icmp .ge 56, 3) := by decide +kernel
theorem d_Md_density_42 : decode b_Md_density 42 = .ok (.lload_n 2, 1) := by decide +kernel
theorem d_Md_density_43 : decode b_Md_density 43 = .ok (.aload_n 0, 1) := by decide +kernel
theorem d_Md_density_44 : decode b_Md_density 44 = .ok (.getfield 13, 3) := by decide +kernel
theorem d_Md_density_47 : decode b_Md_density 47 = .ok (.iload 6, 2) := by decide +kernel
theorem d_Md_density_49 : decode b_Md_density 49 = .ok (.iaload, 1) := by decide +kernel
theorem d_Md_density_50 : decode b_Md_density 50 = .ok (.i2l, 1) := by decide +kernel
theorem d_Md_density_51 : decode b_Md_density 51 = .ok (.lmul, 1) := by decide +kernel
theorem d_Md_density_52 : decode b_Md_density 52 = .ok (.lload 4, 2) := by decide +kernel
theorem d_Md_density_54 : decode b_Md_density 54 = .ok (.ladd, 1) := by decide +kernel
theorem d_Md_density_55 : decode b_Md_density 55 = .ok (.lstore_n 2, 1) := by decide +kernel
theorem d_Md_density_56 : decode b_Md_density 56 = .ok (.lload 4, 2) := by decide +kernel
theorem d_Md_density_58 : decode b_Md_density 58 = .ok (.aload_n 0, 1) := by decide +kernel
theorem d_Md_density_59 : decode b_Md_density 59 = .ok (.getfield 13, 3) := by decide +kernel
theorem d_Md_density_62 : decode b_Md_density 62 = .ok (.iload 6, 2) := by decide +kernel
theorem d_Md_density_64 : decode b_Md_density 64 = .ok (.iaload, 1) := by decide +kernel
theorem d_Md_density_65 : decode b_Md_density 65 = .ok (.i2l, 1) := by decide +kernel
theorem d_Md_density_66 : decode b_Md_density 66 = .ok (.lmul, 1) := by decide +kernel
theorem d_Md_density_67 : decode b_Md_density 67 = .ok (.lstore 4, 2) := by decide +kernel
theorem d_Md_density_69 : decode b_Md_density 69 = .ok (.lload_n 2, 1) := by decide +kernel
theorem d_Md_density_70 : decode b_Md_density 70 = .ok (.lload 4, 2) := by decide +kernel
theorem d_Md_density_72 : decode b_Md_density 72 = .ok (.invokestatic 152, 3) := by decide +kernel
theorem d_Md_density_75 : decode b_Md_density 75 = .ok (.lstore 7, 2) := by decide +kernel
theorem d_Md_density_77 : decode b_Md_density 77 = .ok (.lload_n 2, 1) := by decide +kernel
theorem d_Md_density_78 : decode b_Md_density 78 = .ok (.lload 7, 2) := by decide +kernel
theorem d_Md_density_80 : decode b_Md_density 80 = .ok (.ldiv, 1) := by decide +kernel
theorem d_Md_density_81 : decode b_Md_density 81 = .ok (.lstore_n 2, 1) := by decide +kernel
theorem d_Md_density_82 : decode b_Md_density 82 = .ok (.lload 4, 2) := by decide +kernel
theorem d_Md_density_84 : decode b_Md_density 84 = .ok (.lload 7, 2) := by decide +kernel
theorem d_Md_density_86 : decode b_Md_density 86 = .ok (.ldiv, 1) := by decide +kernel
theorem d_Md_density_87 : decode b_Md_density 87 = .ok (.lstore 4, 2) := by decide +kernel
theorem d_Md_density_89 : decode b_Md_density 89 = .ok (.iinc 6 1, 3) := by decide +kernel
theorem d_Md_density_92 : decode b_Md_density 92 = .ok (.goto (-59), 3) := by decide +kernel
theorem d_Md_density_95 : decode b_Md_density 95 = .ok (.iload_n 1, 1) := by decide +kernel
theorem d_Md_density_96 : decode b_Md_density 96 = .ok (.ifCond .ne 7, 3) := by decide +kernel
theorem d_Md_density_99 : decode b_Md_density 99 = .ok (.lload_n 2, 1) := by decide +kernel
theorem d_Md_density_100 : decode b_Md_density 100 = .ok (.goto 5, 3) := by decide +kernel
theorem d_Md_density_103 : decode b_Md_density 103 = .ok (.lload 4, 2) := by decide +kernel
theorem d_Md_density_105 : decode b_Md_density 105 = .ok (.lreturn, 1) := by decide +kernel
theorem d_Md_common_0 : decode b_Md_common 0 = .ok (.lload_n 0, 1) := by decide +kernel
theorem d_Md_common_1 : decode b_Md_common 1 = .ok (.lstore 4, 2) := by decide +kernel
theorem d_Md_common_3 : decode b_Md_common 3 = .ok (.lload_n 2, 1) := by decide +kernel
theorem d_Md_common_4 : decode b_Md_common 4 = .ok (.lstore 6, 2) := by decide +kernel
theorem d_Md_common_6 : decode b_Md_common 6 = .ok (.lload 6, 2) := by decide +kernel
theorem d_Md_common_8 : decode b_Md_common 8 = .ok (.lconst 0, 1) := by decide +kernel
theorem d_Md_common_9 : decode b_Md_common 9 = .ok (.lcmp, 1) := by decide +kernel
theorem d_Md_common_10 : decode b_Md_common 10 = .ok (.ifCond .eq 21, 3) := by decide +kernel
theorem d_Md_common_13 : decode b_Md_common 13 = .ok (.lload 4, 2) := by decide +kernel
theorem d_Md_common_15 : decode b_Md_common 15 = .ok (.lload 6, 2) := by decide +kernel
theorem d_Md_common_17 : decode b_Md_common 17 = .ok (.lrem, 1) := by decide +kernel
theorem d_Md_common_18 : decode b_Md_common 18 = .ok (.lstore 8, 2) := by decide +kernel
theorem d_Md_common_20 : decode b_Md_common 20 = .ok (.lload 6, 2) := by decide +kernel
theorem d_Md_common_22 : decode b_Md_common 22 = .ok (.lstore 4, 2) := by decide +kernel
theorem d_Md_common_24 : decode b_Md_common 24 = .ok (.lload 8, 2) := by decide +kernel
theorem d_Md_common_26 : decode b_Md_common 26 = .ok (.lstore 6, 2) := by decide +kernel
theorem d_Md_common_28 : decode b_Md_common 28 = .ok (.goto (-22), 3) := by decide +kernel
theorem d_Md_common_31 : decode b_Md_common 31 = .ok (.lload 4, 2) := by decide +kernel
theorem d_Md_common_33 : decode b_Md_common 33 = .ok (.lreturn, 1) := by decide +kernel
theorem d_Md_feasible_0 : decode b_Md_feasible 0 = .ok (.aload_n 0, 1) := by decide +kernel
theorem d_Md_feasible_1 : decode b_Md_feasible 1 = .ok (.iconst 0, 1) := by decide +kernel
theorem d_Md_feasible_2 : decode b_Md_feasible 2 = .ok (.putfield 57, 3) := by decide +kernel
theorem d_Md_feasible_5 : decode b_Md_feasible 5 = .ok (.aload_n 0, 1) := by decide +kernel
theorem d_Md_feasible_6 : decode b_Md_feasible 6 = .ok (.iconst 0, 1) := by decide +kernel
theorem d_Md_feasible_7 : decode b_Md_feasible 7 = .ok (.putfield 63, 3) := by decide +kernel
theorem d_Md_feasible_10 : decode b_Md_feasible 10 = .ok (.aload_n 0, 1) := by decide +kernel
theorem d_Md_feasible_11 : decode b_Md_feasible 11 = .ok (.getfield 60, 3) := by decide +kernel
theorem d_Md_feasible_14 : decode b_Md_feasible 14 = .ok (.iconst 4, 1) := by decide +kernel
theorem d_Md_feasible_15 : decode b_Md_feasible 15 = .ok (.if_icmp .le 9, 3) := by decide +kernel
theorem d_Md_feasible_18 : decode b_Md_feasible 18 = .ok (.sipush 1501, 3) := by decide +kernel
theorem d_Md_feasible_21 : decode b_Md_feasible 21 = .ok (.goto 4, 3) := by decide +kernel
theorem d_Md_feasible_24 : decode b_Md_feasible 24 = .ok (.iconst 1, 1) := by decide +kernel
theorem d_Md_feasible_25 : decode b_Md_feasible 25 = .ok (.istore_n 1, 1) := by decide +kernel
theorem d_Md_feasible_26 : decode b_Md_feasible 26 = .ok (.iconst 0, 1) := by decide +kernel
theorem d_Md_feasible_27 : decode b_Md_feasible 27 = .ok (.istore_n 2, 1) := by decide +kernel
theorem d_Md_feasible_28 : decode b_Md_feasible 28 = .ok (.iload_n 2, 1) := by decide +kernel
theorem d_Md_feasible_29 : decode b_Md_feasible 29 = .ok (.aload_n 0, 1) := by decide +kernel
theorem d_Md_feasible_30 : decode b_Md_feasible 30 = .ok (.getfield 60, 3) := by decide +kernel
theorem d_Md_feasible_33 : decode b_Md_feasible 33 = .ok (.if_icmp .ge 44, 3) := by decide +kernel
theorem d_Md_feasible_36 : decode b_Md_feasible 36 = .ok (.iload_n 1, 1) := by decide +kernel
theorem d_Md_feasible_37 : decode b_Md_feasible 37 = .ok (.sipush 1500, 3) := by decide +kernel
theorem d_Md_feasible_40 : decode b_Md_feasible 40 = .ok (.if_icmp .gt 37, 3) := by decide +kernel
theorem d_Md_feasible_43 : decode b_Md_feasible 43 = .ok (.aload_n 0, 1) := by decide +kernel
theorem d_Md_feasible_44 : decode b_Md_feasible 44 = .ok (.getfield 44, 3) := by decide +kernel
theorem d_Md_feasible_47 : decode b_Md_feasible 47 = .ok (.iload_n 2, 1) := by decide +kernel
theorem d_Md_feasible_48 : decode b_Md_feasible 48 = .ok (.aload_n 0, 1) := by decide +kernel
theorem d_Md_feasible_49 : decode b_Md_feasible 49 = .ok (.getfield 13, 3) := by decide +kernel
theorem d_Md_feasible_52 : decode b_Md_feasible 52 = .ok (.iload_n 2, 1) := by decide +kernel
theorem d_Md_feasible_53 : decode b_Md_feasible 53 = .ok (.iaload, 1) := by decide +kernel
theorem d_Md_feasible_54 : decode b_Md_feasible 54 = .ok (.iastore, 1) := by decide +kernel
theorem d_Md_feasible_55 : decode b_Md_feasible 55 = .ok (.iload_n 1, 1) := by decide +kernel
theorem d_Md_feasible_56 : decode b_Md_feasible 56 = .ok (.aload_n 0, 1) := by decide +kernel
theorem d_Md_feasible_57 : decode b_Md_feasible 57 = .ok (.getfield 13, 3) := by decide +kernel
theorem d_Md_feasible_60 : decode b_Md_feasible 60 = .ok (.iload_n 2, 1) := by decide +kernel
theorem d_Md_feasible_61 : decode b_Md_feasible 61 = .ok (.iaload, 1) := by decide +kernel
theorem d_Md_feasible_62 : decode b_Md_feasible 62 = .ok (.imul, 1) := by decide +kernel
theorem d_Md_feasible_63 : decode b_Md_feasible 63 = .ok (.istore_n 1, 1) := by decide +kernel
theorem d_Md_feasible_64 : decode b_Md_feasible 64 = .ok (.aload_n 0, 1) := by decide +kernel
theorem d_Md_feasible_65 : decode b_Md_feasible 65 = .ok (.iload_n 2, 1) := by decide +kernel
theorem d_Md_feasible_66 : decode b_Md_feasible 66 = .ok (.iconst 1, 1) := by decide +kernel
theorem d_Md_feasible_67 : decode b_Md_feasible 67 = .ok (.iadd, 1) := by decide +kernel
theorem d_Md_feasible_68 : decode b_Md_feasible 68 = .ok (.putfield 63, 3) := by decide +kernel
theorem d_Md_feasible_71 : decode b_Md_feasible 71 = .ok (.iinc 2 1, 3) := by decide +kernel
theorem d_Md_feasible_74 : decode b_Md_feasible 74 = .ok (.goto (-46), 3) := by decide +kernel
theorem d_Md_feasible_77 : decode b_Md_feasible 77 = .ok (.iload_n 1, 1) := by decide +kernel
theorem d_Md_feasible_78 : decode b_Md_feasible 78 = .ok (.sipush 1500, 3) := by decide +kernel
theorem d_Md_feasible_81 : decode b_Md_feasible 81 = .ok (.if_icmp .le 5, 3) := by decide +kernel
theorem d_Md_feasible_84 : decode b_Md_feasible 84 = .ok (.iconst (-1), 1) := by decide +kernel
theorem d_Md_feasible_85 : decode b_Md_feasible 85 = .ok (.ireturn, 1) := by decide +kernel
theorem d_Md_feasible_86 : decode b_Md_feasible 86 = .ok (.aload_n 0, 1) := by decide +kernel
theorem d_Md_feasible_87 : decode b_Md_feasible 87 = .ok (.iload_n 1, 1) := by decide +kernel
theorem d_Md_feasible_88 : decode b_Md_feasible 88 = .ok (.invokevirtual 101, 3) := by decide +kernel
theorem d_Md_feasible_91 : decode b_Md_feasible 91 = .ok (.ifCond .eq 7, 3) := by decide +kernel
theorem d_Md_feasible_94 : decode b_Md_feasible 94 = .ok (.iconst 1, 1) := by decide +kernel
theorem d_Md_feasible_95 : decode b_Md_feasible 95 = .ok (.goto 4, 3) := by decide +kernel
theorem d_Md_feasible_98 : decode b_Md_feasible 98 = .ok (.iconst 0, 1) := by decide +kernel
theorem d_Md_feasible_99 : decode b_Md_feasible 99 = .ok (.ireturn, 1) := by decide +kernel
theorem d_Lw_law_0 : decode b_Lw_law 0 = .ok (.new 8, 3) := by decide +kernel
theorem d_Lw_law_3 : decode b_Lw_law 3 = .ok (.dup, 1) := by decide +kernel
theorem d_Lw_law_4 : decode b_Lw_law 4 = .ok (.invokespecial 54, 3) := by decide +kernel
theorem d_Lw_law_7 : decode b_Lw_law 7 = .ok (.astore_n 1, 1) := by decide +kernel
theorem d_Lw_law_8 : decode b_Lw_law 8 = .ok (.new 55, 3) := by decide +kernel
theorem d_Lw_law_11 : decode b_Lw_law 11 = .ok (.dup, 1) := by decide +kernel
theorem d_Lw_law_12 : decode b_Lw_law 12 = .ok (.invokespecial 57, 3) := by decide +kernel
theorem d_Lw_law_15 : decode b_Lw_law 15 = .ok (.astore_n 2, 1) := by decide +kernel
theorem d_Lw_law_16 : decode b_Lw_law 16 = .ok (.iconst 1, 1) := by decide +kernel
theorem d_Lw_law_17 : decode b_Lw_law 17 = .ok (.newarray .long, 2) := by decide +kernel
theorem d_Lw_law_19 : decode b_Lw_law 19 = .ok (.astore_n 3, 1) := by decide +kernel
theorem d_Lw_law_20 : decode b_Lw_law 20 = .ok (.iconst 0, 1) := by decide +kernel
theorem d_Lw_law_21 : decode b_Lw_law 21 = .ok (.istore 4, 2) := by decide +kernel
theorem d_Lw_law_23 : decode b_Lw_law 23 = .ok (.iload 4, 2) := by decide +kernel
theorem d_Lw_law_25 : decode b_Lw_law 25 = .ok (.aload_n 0, 1) := by decide +kernel
theorem d_Lw_law_26 : decode b_Lw_law 26 = .ok (.arraylength, 1) := by decide +kernel
theorem d_Lw_law_27 : decode b_Lw_law 27 = .ok (.iconst 3, 1) := by decide +kernel
theorem d_Lw_law_28 : decode b_Lw_law 28 = .ok (.isub, 1) := by decide +kernel
theorem d_Lw_law_29 : decode b_Lw_law 29 = .ok (.if_icmp .gt 682, 3) := by decide +kernel
theorem d_Lw_law_32 : decode b_Lw_law 32 = .ok (.aload_n 0, 1) := by decide +kernel
theorem d_Lw_law_33 : decode b_Lw_law 33 = .ok (.iload 4, 2) := by decide +kernel
theorem d_Lw_law_35 : decode b_Lw_law 35 = .ok (.iaload, 1) := by decide +kernel
theorem d_Lw_law_36 : decode b_Lw_law 36 = .ok (.bipush 15, 2) := by decide +kernel
theorem d_Lw_law_38 : decode b_Lw_law 38 = .ok (.iand, 1) := by decide +kernel
theorem d_Lw_law_39 : decode b_Lw_law 39 = .ok (.tableswitch 666 0 11 #[61, 129, 185, 198, 234, 290, 346, 402, 486, 542, 598, 653], 61) := by decide +kernel
theorem d_Lw_law_100 : decode b_Lw_law 100 = .ok (.aload_n 1, 1) := by decide +kernel
theorem d_Lw_law_101 : decode b_Lw_law 101 = .ok (.aload_n 0, 1) := by decide +kernel
theorem d_Lw_law_102 : decode b_Lw_law 102 = .ok (.iload 4, 2) := by decide +kernel
theorem d_Lw_law_104 : decode b_Lw_law 104 = .ok (.iconst 1, 1) := by decide +kernel
theorem d_Lw_law_105 : decode b_Lw_law 105 = .ok (.iadd, 1) := by decide +kernel
theorem d_Lw_law_106 : decode b_Lw_law 106 = .ok (.iaload, 1) := by decide +kernel
theorem d_Lw_law_107 : decode b_Lw_law 107 = .ok (.aload_n 0, 1) := by decide +kernel
theorem d_Lw_law_108 : decode b_Lw_law 108 = .ok (.iload 4, 2) := by decide +kernel
theorem d_Lw_law_110 : decode b_Lw_law 110 = .ok (.iconst 2, 1) := by decide +kernel
theorem d_Lw_law_111 : decode b_Lw_law 111 = .ok (.iadd, 1) := by decide +kernel
theorem d_Lw_law_112 : decode b_Lw_law 112 = .ok (.iaload, 1) := by decide +kernel
theorem d_Lw_law_113 : decode b_Lw_law 113 = .ok (.aload_n 3, 1) := by decide +kernel
theorem d_Lw_law_114 : decode b_Lw_law 114 = .ok (.invokestatic 58, 3) := by decide +kernel
theorem d_Lw_law_117 : decode b_Lw_law 117 = .ok (.istore 5, 2) := by decide +kernel
theorem d_Lw_law_119 : decode b_Lw_law 119 = .ok (.aload_n 2, 1) := by decide +kernel
theorem d_Lw_law_120 : decode b_Lw_law 120 = .ok (.aload_n 0, 1) := by decide +kernel
theorem d_Lw_law_121 : decode b_Lw_law 121 = .ok (.iload 4, 2) := by decide +kernel
theorem d_Lw_law_123 : decode b_Lw_law 123 = .ok (.iconst 1, 1) := by decide +kernel
theorem d_Lw_law_124 : decode b_Lw_law 124 = .ok (.iadd, 1) := by decide +kernel
theorem d_Lw_law_125 : decode b_Lw_law 125 = .ok (.iaload, 1) := by decide +kernel
theorem d_Lw_law_126 : decode b_Lw_law 126 = .ok (.aload_n 0, 1) := by decide +kernel
theorem d_Lw_law_127 : decode b_Lw_law 127 = .ok (.iload 4, 2) := by decide +kernel
theorem d_Lw_law_129 : decode b_Lw_law 129 = .ok (.iconst 2, 1) := by decide +kernel
theorem d_Lw_law_130 : decode b_Lw_law 130 = .ok (.iadd, 1) := by decide +kernel
theorem d_Lw_law_131 : decode b_Lw_law 131 = .ok (.iaload, 1) := by decide +kernel
theorem d_Lw_law_132 : decode b_Lw_law 132 = .ok (.invokevirtual 63, 3) := by decide +kernel
theorem d_Lw_law_135 : decode b_Lw_law 135 = .ok (.istore 6, 2) := by decide +kernel
theorem d_Lw_law_137 : decode b_Lw_law 137 = .ok (.aload_n 2, 1) := by decide +kernel
theorem d_Lw_law_138 : decode b_Lw_law 138 = .ok (.invokevirtual 64, 3) := by decide +kernel
theorem d_Lw_law_141 : decode b_Lw_law 141 = .ok (.iload 5, 2) := by decide +kernel
theorem d_Lw_law_143 : decode b_Lw_law 143 = .ok (.if_icmp .eq 5, 3) := by decide +kernel
theorem d_Lw_law_146 : decode b_Lw_law 146 = .ok (.iconst 0, 1) := by decide +kernel
theorem d_Lw_law_147 : decode b_Lw_law 147 = .ok (.ireturn, 1) := by decide +kernel
theorem d_Lw_law_148 : decode b_Lw_law 148 = .ok (.iload 5, 2) := by decide +kernel
theorem d_Lw_law_150 : decode b_Lw_law 150 = .ok (.ifCond .ne 15, 3) := by decide +kernel
theorem d_Lw_law_153 : decode b_Lw_law 153 = .ok (.aload_n 3, 1) := by decide +kernel
theorem d_Lw_law_154 : decode b_Lw_law 154 = .ok (.iconst 0, 1) := by decide +kernel
theorem d_Lw_law_155 : decode b_Lw_law 155 = .ok (.laload, 1) := by decide +kernel
theorem d_Lw_law_156 : decode b_Lw_law 156 = .ok (.iload 6, 2) := by decide +kernel
theorem d_Lw_law_158 : decode b_Lw_law 158 = .ok (.i2l, 1) := by decide +kernel
theorem d_Lw_law_159 : decode b_Lw_law 159 = .ok (.lcmp, 1) := by decide +kernel
theorem d_Lw_law_160 : decode b_Lw_law 160 = .ok (.ifCond .eq 5, 3) := by decide +kernel
theorem d_Lw_law_163 : decode b_Lw_law 163 = .ok (.iconst 0, 1) := by decide +kernel
theorem d_Lw_law_164 : decode b_Lw_law 164 = .ok (.ireturn, 1) := by decide +kernel
theorem d_Lw_law_165 : decode b_Lw_law 165 = .ok (.goto 540, 3) := by decide +kernel
theorem d_Lw_law_168 : decode b_Lw_law 168 = .ok (.aload_n 1, 1) := by decide +kernel
theorem d_Lw_law_169 : decode b_Lw_law 169 = .ok (.aload_n 0, 1) := by decide +kernel
theorem d_Lw_law_170 : decode b_Lw_law 170 = .ok (.iload 4, 2) := by decide +kernel
theorem d_Lw_law_172 : decode b_Lw_law 172 = .ok (.iconst 1, 1) := by decide +kernel
theorem d_Lw_law_173 : decode b_Lw_law 173 = .ok (.iadd, 1) := by decide +kernel
theorem d_Lw_law_174 : decode b_Lw_law 174 = .ok (.iaload, 1) := by decide +kernel
theorem d_Lw_law_175 : decode b_Lw_law 175 = .ok (.aload_n 3, 1) := by decide +kernel
theorem d_Lw_law_176 : decode b_Lw_law 176 = .ok (.invokestatic 68, 3) := by decide +kernel
theorem d_Lw_law_179 : decode b_Lw_law 179 = .ok (.istore 5, 2) := by decide +kernel
theorem d_Lw_law_181 : decode b_Lw_law 181 = .ok (.aload_n 2, 1) := by decide +kernel
theorem d_Lw_law_182 : decode b_Lw_law 182 = .ok (.aload_n 0, 1) := by decide +kernel
theorem d_Lw_law_183 : decode b_Lw_law 183 = .ok (.iload 4, 2) := by decide +kernel
theorem d_Lw_law_185 : decode b_Lw_law 185 = .ok (.iconst 1, 1) := by decide +kernel
theorem d_Lw_law_186 : decode b_Lw_law 186 = .ok (.iadd, 1) := by decide +kernel
theorem d_Lw_law_187 : decode b_Lw_law 187 = .ok (.iaload, 1) := by decide +kernel
theorem d_Lw_law_188 : decode b_Lw_law 188 = .ok (.invokevirtual 71, 3) := by decide +kernel
theorem d_Lw_law_191 : decode b_Lw_law 191 = .ok (.istore 6, 2) := by decide +kernel
theorem d_Lw_law_193 : decode b_Lw_law 193 = .ok (.aload_n 2, 1) := by decide +kernel
theorem d_Lw_law_194 : decode b_Lw_law 194 = .ok (.invokevirtual 64, 3) := by decide +kernel
theorem d_Lw_law_197 : decode b_Lw_law 197 = .ok (.iload 5, 2) := by decide +kernel
theorem d_Lw_law_199 : decode b_Lw_law 199 = .ok (.if_icmp .eq 5, 3) := by decide +kernel
theorem d_Lw_law_202 : decode b_Lw_law 202 = .ok (.iconst 0, 1) := by decide +kernel
theorem d_Lw_law_203 : decode b_Lw_law 203 = .ok (.ireturn, 1) := by decide +kernel
theorem d_Lw_law_204 : decode b_Lw_law 204 = .ok (.iload 5, 2) := by decide +kernel
theorem d_Lw_law_206 : decode b_Lw_law 206 = .ok (.ifCond .ne 15, 3) := by decide +kernel
theorem d_Lw_law_209 : decode b_Lw_law 209 = .ok (.aload_n 3, 1) := by decide +kernel
theorem d_Lw_law_210 : decode b_Lw_law 210 = .ok (.iconst 0, 1) := by decide +kernel
theorem d_Lw_law_211 : decode b_Lw_law 211 = .ok (.laload, 1) := by decide +kernel
theorem d_Lw_law_212 : decode b_Lw_law 212 = .ok (.iload 6, 2) := by decide +kernel
theorem d_Lw_law_214 : decode b_Lw_law 214 = .ok (.i2l, 1) := by decide +kernel
theorem d_Lw_law_215 : decode b_Lw_law 215 = .ok (.lcmp, 1) := by decide +kernel
theorem d_Lw_law_216 : decode b_Lw_law 216 = .ok (.ifCond .eq 5, 3) := by decide +kernel
theorem d_Lw_law_219 : decode b_Lw_law 219 = .ok (.iconst 0, 1) := by decide +kernel
theorem d_Lw_law_220 : decode b_Lw_law 220 = .ok (.ireturn, 1) := by decide +kernel
theorem d_Lw_law_221 : decode b_Lw_law 221 = .ok (.goto 484, 3) := by decide +kernel
theorem d_Lw_law_224 : decode b_Lw_law 224 = .ok (.aload_n 1, 1) := by decide +kernel
theorem d_Lw_law_225 : decode b_Lw_law 225 = .ok (.invokevirtual 72, 3) := by decide +kernel
theorem d_Lw_law_228 : decode b_Lw_law 228 = .ok (.aload_n 2, 1) := by decide +kernel
theorem d_Lw_law_229 : decode b_Lw_law 229 = .ok (.invokevirtual 75, 3) := by decide +kernel
theorem d_Lw_law_232 : decode b_Lw_law 232 = .ok (.if_icmp .eq 473, 3) := by decide +kernel
theorem d_Lw_law_235 : decode b_Lw_law 235 = .ok (.iconst 0, 1) := by decide +kernel
theorem d_Lw_law_236 : decode b_Lw_law 236 = .ok (.ireturn, 1) := by decide +kernel
theorem d_Lw_law_237 : decode b_Lw_law 237 = .ok (.aload_n 1, 1) := by decide +kernel
theorem d_Lw_law_238 : decode b_Lw_law 238 = .ok (.aload_n 0, 1) := by decide +kernel
theorem d_Lw_law_239 : decode b_Lw_law 239 = .ok (.iload 4, 2) := by decide +kernel
theorem d_Lw_law_241 : decode b_Lw_law 241 = .ok (.iconst 1, 1) := by decide +kernel
theorem d_Lw_law_242 : decode b_Lw_law 242 = .ok (.iadd, 1) := by decide +kernel
theorem d_Lw_law_243 : decode b_Lw_law 243 = .ok (.iaload, 1) := by decide +kernel
theorem d_Lw_law_244 : decode b_Lw_law 244 = .ok (.invokestatic 76, 3) := by decide +kernel
theorem d_Lw_law_247 : decode b_Lw_law 247 = .ok (.istore 5, 2) := by decide +kernel
theorem d_Lw_law_249 : decode b_Lw_law 249 = .ok (.aload_n 2, 1) := by decide +kernel
theorem d_Lw_law_250 : decode b_Lw_law 250 = .ok (.aload_n 0, 1) := by decide +kernel
theorem d_Lw_law_251 : decode b_Lw_law 251 = .ok (.iload 4, 2) := by decide +kernel
theorem d_Lw_law_253 : decode b_Lw_law 253 = .ok (.iconst 1, 1) := by decide +kernel
theorem d_Lw_law_254 : decode b_Lw_law 254 = .ok (.iadd, 1) := by decide +kernel
theorem d_Lw_law_255 : decode b_Lw_law 255 = .ok (.iaload, 1) := by decide +kernel
theorem d_Lw_law_256 : decode b_Lw_law 256 = .ok (.invokevirtual 79, 3) := by decide +kernel
theorem d_Lw_law_259 : decode b_Lw_law 259 = .ok (.aload_n 2, 1) := by decide +kernel
theorem d_Lw_law_260 : decode b_Lw_law 260 = .ok (.invokevirtual 64, 3) := by decide +kernel
theorem d_Lw_law_263 : decode b_Lw_law 263 = .ok (.iload 5, 2) := by decide +kernel
theorem d_Lw_law_265 : decode b_Lw_law 265 = .ok (.if_icmp .eq 5, 3) := by decide +kernel
theorem d_Lw_law_268 : decode b_Lw_law 268 = .ok (.iconst 0, 1) := by decide +kernel
theorem d_Lw_law_269 : decode b_Lw_law 269 = .ok (.ireturn, 1) := by decide +kernel
theorem d_Lw_law_270 : decode b_Lw_law 270 = .ok (.goto 435, 3) := by decide +kernel
theorem d_Lw_law_273 : decode b_Lw_law 273 = .ok (.aload_n 1, 1) := by decide +kernel
theorem d_Lw_law_274 : decode b_Lw_law 274 = .ok (.aload_n 0, 1) := by decide +kernel
theorem d_Lw_law_275 : decode b_Lw_law 275 = .ok (.iload 4, 2) := by decide +kernel
theorem d_Lw_law_277 : decode b_Lw_law 277 = .ok (.iconst 1, 1) := by decide +kernel
theorem d_Lw_law_278 : decode b_Lw_law 278 = .ok (.iadd, 1) := by decide +kernel
theorem d_Lw_law_279 : decode b_Lw_law 279 = .ok (.iaload, 1) := by decide +kernel
theorem d_Lw_law_280 : decode b_Lw_law 280 = .ok (.aload_n 3, 1) := by decide +kernel
theorem d_Lw_law_281 : decode b_Lw_law 281 = .ok (.invokestatic 80, 3) := by decide +kernel
theorem d_Lw_law_284 : decode b_Lw_law 284 = .ok (.istore 5, 2) := by decide +kernel
theorem d_Lw_law_286 : decode b_Lw_law 286 = .ok (.aload_n 2, 1) := by decide +kernel
theorem d_Lw_law_287 : decode b_Lw_law 287 = .ok (.aload_n 0, 1) := by decide +kernel
theorem d_Lw_law_288 : decode b_Lw_law 288 = .ok (.iload 4, 2) := by decide +kernel
theorem d_Lw_law_290 : decode b_Lw_law 290 = .ok (.iconst 1, 1) := by decide +kernel
theorem d_Lw_law_291 : decode b_Lw_law 291 = .ok (.iadd, 1) := by decide +kernel
theorem d_Lw_law_292 : decode b_Lw_law 292 = .ok (.iaload, 1) := by decide +kernel
theorem d_Lw_law_293 : decode b_Lw_law 293 = .ok (.invokevirtual 82, 3) := by decide +kernel
theorem d_Lw_law_296 : decode b_Lw_law 296 = .ok (.istore 6, 2) := by decide +kernel
theorem d_Lw_law_298 : decode b_Lw_law 298 = .ok (.aload_n 2, 1) := by decide +kernel
theorem d_Lw_law_299 : decode b_Lw_law 299 = .ok (.invokevirtual 64, 3) := by decide +kernel
theorem d_Lw_law_302 : decode b_Lw_law 302 = .ok (.iload 5, 2) := by decide +kernel
theorem d_Lw_law_304 : decode b_Lw_law 304 = .ok (.if_icmp .eq 5, 3) := by decide +kernel
theorem d_Lw_law_307 : decode b_Lw_law 307 = .ok (.iconst 0, 1) := by decide +kernel
theorem d_Lw_law_308 : decode b_Lw_law 308 = .ok (.ireturn, 1) := by decide +kernel
theorem d_Lw_law_309 : decode b_Lw_law 309 = .ok (.iload 5, 2) := by decide +kernel
theorem d_Lw_law_311 : decode b_Lw_law 311 = .ok (.ifCond .ne 15, 3) := by decide +kernel
theorem d_Lw_law_314 : decode b_Lw_law 314 = .ok (.aload_n 3, 1) := by decide +kernel
theorem d_Lw_law_315 : decode b_Lw_law 315 = .ok (.iconst 0, 1) := by decide +kernel
theorem d_Lw_law_316 : decode b_Lw_law 316 = .ok (.laload, 1) := by decide +kernel
theorem d_Lw_law_317 : decode b_Lw_law 317 = .ok (.iload 6, 2) := by decide +kernel
theorem d_Lw_law_319 : decode b_Lw_law 319 = .ok (.i2l, 1) := by decide +kernel
theorem d_Lw_law_320 : decode b_Lw_law 320 = .ok (.lcmp, 1) := by decide +kernel
theorem d_Lw_law_321 : decode b_Lw_law 321 = .ok (.ifCond .eq 5, 3) := by decide +kernel
theorem d_Lw_law_324 : decode b_Lw_law 324 = .ok (.iconst 0, 1) := by decide +kernel
theorem d_Lw_law_325 : decode b_Lw_law 325 = .ok (.ireturn, 1) := by decide +kernel
theorem d_Lw_law_326 : decode b_Lw_law 326 = .ok (.goto 379, 3) := by decide +kernel
theorem d_Lw_law_329 : decode b_Lw_law 329 = .ok (.aload_n 1, 1) := by decide +kernel
theorem d_Lw_law_330 : decode b_Lw_law 330 = .ok (.aload_n 0, 1) := by decide +kernel
theorem d_Lw_law_331 : decode b_Lw_law 331 = .ok (.iload 4, 2) := by decide +kernel
theorem d_Lw_law_333 : decode b_Lw_law 333 = .ok (.iconst 1, 1) := by decide +kernel
theorem d_Lw_law_334 : decode b_Lw_law 334 = .ok (.iadd, 1) := by decide +kernel
theorem d_Lw_law_335 : decode b_Lw_law 335 = .ok (.iaload, 1) := by decide +kernel
theorem d_Lw_law_336 : decode b_Lw_law 336 = .ok (.aload_n 3, 1) := by decide +kernel
theorem d_Lw_law_337 : decode b_Lw_law 337 = .ok (.invokestatic 83, 3) := by decide +kernel
theorem d_Lw_law_340 : decode b_Lw_law 340 = .ok (.istore 5, 2) := by decide +kernel
theorem d_Lw_law_342 : decode b_Lw_law 342 = .ok (.aload_n 2, 1) := by decide +kernel
theorem d_Lw_law_343 : decode b_Lw_law 343 = .ok (.aload_n 0, 1) := by decide +kernel
theorem d_Lw_law_344 : decode b_Lw_law 344 = .ok (.iload 4, 2) := by decide +kernel
theorem d_Lw_law_346 : decode b_Lw_law 346 = .ok (.iconst 1, 1) := by decide +kernel
theorem d_Lw_law_347 : decode b_Lw_law 347 = .ok (.iadd, 1) := by decide +kernel
theorem d_Lw_law_348 : decode b_Lw_law 348 = .ok (.iaload, 1) := by decide +kernel
theorem d_Lw_law_349 : decode b_Lw_law 349 = .ok (.invokevirtual 85, 3) := by decide +kernel
theorem d_Lw_law_352 : decode b_Lw_law 352 = .ok (.istore 6, 2) := by decide +kernel
theorem d_Lw_law_354 : decode b_Lw_law 354 = .ok (.aload_n 2, 1) := by decide +kernel
theorem d_Lw_law_355 : decode b_Lw_law 355 = .ok (.invokevirtual 64, 3) := by decide +kernel
theorem d_Lw_law_358 : decode b_Lw_law 358 = .ok (.iload 5, 2) := by decide +kernel
theorem d_Lw_law_360 : decode b_Lw_law 360 = .ok (.if_icmp .eq 5, 3) := by decide +kernel
theorem d_Lw_law_363 : decode b_Lw_law 363 = .ok (.iconst 0, 1) := by decide +kernel
theorem d_Lw_law_364 : decode b_Lw_law 364 = .ok (.ireturn, 1) := by decide +kernel
theorem d_Lw_law_365 : decode b_Lw_law 365 = .ok (.iload 5, 2) := by decide +kernel
theorem d_Lw_law_367 : decode b_Lw_law 367 = .ok (.ifCond .ne 15, 3) := by decide +kernel
theorem d_Lw_law_370 : decode b_Lw_law 370 = .ok (.aload_n 3, 1) := by decide +kernel
theorem d_Lw_law_371 : decode b_Lw_law 371 = .ok (.iconst 0, 1) := by decide +kernel
theorem d_Lw_law_372 : decode b_Lw_law 372 = .ok (.laload, 1) := by decide +kernel
theorem d_Lw_law_373 : decode b_Lw_law 373 = .ok (.iload 6, 2) := by decide +kernel
theorem d_Lw_law_375 : decode b_Lw_law 375 = .ok (.i2l, 1) := by decide +kernel
theorem d_Lw_law_376 : decode b_Lw_law 376 = .ok (.lcmp, 1) := by decide +kernel
theorem d_Lw_law_377 : decode b_Lw_law 377 = .ok (.ifCond .eq 5, 3) := by decide +kernel
theorem d_Lw_law_380 : decode b_Lw_law 380 = .ok (.iconst 0, 1) := by decide +kernel
theorem d_Lw_law_381 : decode b_Lw_law 381 = .ok (.ireturn, 1) := by decide +kernel
theorem d_Lw_law_382 : decode b_Lw_law 382 = .ok (.goto 323, 3) := by decide +kernel
