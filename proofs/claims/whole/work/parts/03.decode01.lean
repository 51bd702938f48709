theorem d_Cl_passSlot_58 : decode b_Cl_passSlot 58 = .ok (.iastore, 1) := by decide +kernel
theorem d_Cl_passSlot_59 : decode b_Cl_passSlot 59 = .ok (.iinc 2 1, 3) := by decide +kernel
theorem d_Cl_passSlot_62 : decode b_Cl_passSlot 62 = .ok (.goto (-60), 3) := by decide +kernel
theorem d_Cl_passSlot_65 : decode b_Cl_passSlot 65 = .ok (.return_, 1) := by decide +kernel
theorem d_Pk_feasible_0 : decode b_Pk_feasible 0 = .ok (.aload_n 0, 1) := by decide +kernel
theorem d_Pk_feasible_1 : decode b_Pk_feasible 1 = .ok (.getfield 23, 3) := by decide +kernel
theorem d_Pk_feasible_4 : decode b_Pk_feasible 4 = .ok (.invokevirtual 67, 3) := by decide +kernel
theorem d_Pk_feasible_7 : decode b_Pk_feasible 7 = .ok (.ifCond .ne 5, 3) := by decide +kernel
theorem d_Pk_feasible_10 : decode b_Pk_feasible 10 = .ok (.iconst 1, 1) := by decide +kernel
theorem d_Pk_feasible_11 : decode b_Pk_feasible 11 = .ok (.ireturn, 1) := by decide +kernel
theorem d_Pk_feasible_12 : decode b_Pk_feasible 12 = .ok (.aload_n 0, 1) := by decide +kernel
theorem d_Pk_feasible_13 : decode b_Pk_feasible 13 = .ok (.invokevirtual 130, 3) := by decide +kernel
theorem d_Pk_feasible_16 : decode b_Pk_feasible 16 = .ok (.astore_n 1, 1) := by decide +kernel
theorem d_Pk_feasible_17 : decode b_Pk_feasible 17 = .ok (.aload_n 1, 1) := by decide +kernel
theorem d_Pk_feasible_18 : decode b_Pk_feasible 18 = .ok (.aload_n 0, 1) := by decide +kernel
theorem d_Pk_feasible_19 : decode b_Pk_feasible 19 = .ok (.getfield 23, 3) := by decide +kernel
theorem d_Pk_feasible_22 : decode b_Pk_feasible 22 = .ok (.invokevirtual 134, 3) := by decide +kernel
theorem d_Pk_feasible_25 : decode b_Pk_feasible 25 = .ok (.ifCond .ne 5, 3) := by decide +kernel
theorem d_Pk_feasible_28 : decode b_Pk_feasible 28 = .ok (.iconst (-1), 1) := by decide +kernel
theorem d_Pk_feasible_29 : decode b_Pk_feasible 29 = .ok (.ireturn, 1) := by decide +kernel
theorem d_Pk_feasible_30 : decode b_Pk_feasible 30 = .ok (.aload_n 1, 1) := by decide +kernel
theorem d_Pk_feasible_31 : decode b_Pk_feasible 31 = .ok (.invokevirtual 140, 3) := by decide +kernel
theorem d_Pk_feasible_34 : decode b_Pk_feasible 34 = .ok (.ifCond .eq 7, 3) := by decide +kernel
theorem d_Pk_feasible_37 : decode b_Pk_feasible 37 = .ok (.iconst 1, 1) := by decide +kernel
theorem d_Pk_feasible_38 : decode b_Pk_feasible 38 = .ok (.goto 4, 3) := by decide +kernel
theorem d_Pk_feasible_41 : decode b_Pk_feasible 41 = .ok (.iconst 0, 1) := by decide +kernel
theorem d_Pk_feasible_42 : decode b_Pk_feasible 42 = .ok (.ireturn, 1) := by decide +kernel
theorem d_Pk_stateBuilder_0 : decode b_Pk_stateBuilder 0 = .ok (.aload_n 0, 1) := by decide +kernel
theorem d_Pk_stateBuilder_1 : decode b_Pk_stateBuilder 1 = .ok (.getfield 16, 3) := by decide +kernel
theorem d_Pk_stateBuilder_4 : decode b_Pk_stateBuilder 4 = .ok (.ifnonnull 14, 3) := by decide +kernel
theorem d_Pk_stateBuilder_7 : decode b_Pk_stateBuilder 7 = .ok (.aload_n 0, 1) := by decide +kernel
theorem d_Pk_stateBuilder_8 : decode b_Pk_stateBuilder 8 = .ok (.new 135, 3) := by decide +kernel
theorem d_Pk_stateBuilder_11 : decode b_Pk_stateBuilder 11 = .ok (.dup, 1) := by decide +kernel
theorem d_Pk_stateBuilder_12 : decode b_Pk_stateBuilder 12 = .ok (.invokespecial 170, 3) := by decide +kernel
theorem d_Pk_stateBuilder_15 : decode b_Pk_stateBuilder 15 = .ok (.putfield 16, 3) := by decide +kernel
theorem d_Pk_stateBuilder_18 : decode b_Pk_stateBuilder 18 = .ok (.aload_n 0, 1) := by decide +kernel
theorem d_Pk_stateBuilder_19 : decode b_Pk_stateBuilder 19 = .ok (.getfield 16, 3) := by decide +kernel
theorem d_Pk_stateBuilder_22 : decode b_Pk_stateBuilder 22 = .ok (.areturn, 1) := by decide +kernel
theorem d_Sb_init_0 : decode b_Sb_init 0 = .ok (.aload_n 0, 1) := by decide +kernel
theorem d_Sb_init_1 : decode b_Sb_init 1 = .ok (.invokespecial 3, 3) := by decide +kernel
theorem d_Sb_init_4 : decode b_Sb_init 4 = .ok (.aload_n 0, 1) := by decide +kernel
theorem d_Sb_init_5 : decode b_Sb_init 5 = .ok (.iconst 4, 1) := by decide +kernel
theorem d_Sb_init_6 : decode b_Sb_init 6 = .ok (.newarray .int, 2) := by decide +kernel
theorem d_Sb_init_8 : decode b_Sb_init 8 = .ok (.putfield 9, 3) := by decide +kernel
theorem d_Sb_init_11 : decode b_Sb_init 11 = .ok (.aload_n 0, 1) := by decide +kernel
theorem d_Sb_init_12 : decode b_Sb_init 12 = .ok (.iconst 4, 1) := by decide +kernel
theorem d_Sb_init_13 : decode b_Sb_init 13 = .ok (.newarray .int, 2) := by decide +kernel
theorem d_Sb_init_15 : decode b_Sb_init 15 = .ok (.putfield 15, 3) := by decide +kernel
theorem d_Sb_init_18 : decode b_Sb_init 18 = .ok (.aload_n 0, 1) := by decide +kernel
theorem d_Sb_init_19 : decode b_Sb_init 19 = .ok (.iconst 4, 1) := by decide +kernel
theorem d_Sb_init_20 : decode b_Sb_init 20 = .ok (.newarray .int, 2) := by decide +kernel
theorem d_Sb_init_22 : decode b_Sb_init 22 = .ok (.putfield 18, 3) := by decide +kernel
theorem d_Sb_init_25 : decode b_Sb_init 25 = .ok (.aload_n 0, 1) := by decide +kernel
theorem d_Sb_init_26 : decode b_Sb_init 26 = .ok (.iconst 0, 1) := by decide +kernel
theorem d_Sb_init_27 : decode b_Sb_init 27 = .ok (.putfield 21, 3) := by decide +kernel
theorem d_Sb_init_30 : decode b_Sb_init 30 = .ok (.aload_n 0, 1) := by decide +kernel
theorem d_Sb_init_31 : decode b_Sb_init 31 = .ok (.iconst 1, 1) := by decide +kernel
theorem d_Sb_init_32 : decode b_Sb_init 32 = .ok (.putfield 25, 3) := by decide +kernel
theorem d_Sb_init_35 : decode b_Sb_init 35 = .ok (.aload_n 0, 1) := by decide +kernel
theorem d_Sb_init_36 : decode b_Sb_init 36 = .ok (.iconst 0, 1) := by decide +kernel
theorem d_Sb_init_37 : decode b_Sb_init 37 = .ok (.putfield 28, 3) := by decide +kernel
theorem d_Sb_init_40 : decode b_Sb_init 40 = .ok (.aload_n 0, 1) := by decide +kernel
theorem d_Sb_init_41 : decode b_Sb_init 41 = .ok (.sipush 1500, 3) := by decide +kernel
theorem d_Sb_init_44 : decode b_Sb_init 44 = .ok (.newarray .int, 2) := by decide +kernel
theorem d_Sb_init_46 : decode b_Sb_init 46 = .ok (.putfield 31, 3) := by decide +kernel
theorem d_Sb_init_49 : decode b_Sb_init 49 = .ok (.aload_n 0, 1) := by decide +kernel
theorem d_Sb_init_50 : decode b_Sb_init 50 = .ok (.sipush 1500, 3) := by decide +kernel
theorem d_Sb_init_53 : decode b_Sb_init 53 = .ok (.newarray .int, 2) := by decide +kernel
theorem d_Sb_init_55 : decode b_Sb_init 55 = .ok (.putfield 34, 3) := by decide +kernel
theorem d_Sb_init_58 : decode b_Sb_init 58 = .ok (.aload_n 0, 1) := by decide +kernel
theorem d_Sb_init_59 : decode b_Sb_init 59 = .ok (.iconst 0, 1) := by decide +kernel
theorem d_Sb_init_60 : decode b_Sb_init 60 = .ok (.putfield 37, 3) := by decide +kernel
theorem d_Sb_init_63 : decode b_Sb_init 63 = .ok (.aload_n 0, 1) := by decide +kernel
theorem d_Sb_init_64 : decode b_Sb_init 64 = .ok (.sipush 1500, 3) := by decide +kernel
theorem d_Sb_init_67 : decode b_Sb_init 67 = .ok (.newarray .int, 2) := by decide +kernel
theorem d_Sb_init_69 : decode b_Sb_init 69 = .ok (.putfield 40, 3) := by decide +kernel
theorem d_Sb_init_72 : decode b_Sb_init 72 = .ok (.aload_n 0, 1) := by decide +kernel
theorem d_Sb_init_73 : decode b_Sb_init 73 = .ok (.sipush 1500, 3) := by decide +kernel
theorem d_Sb_init_76 : decode b_Sb_init 76 = .ok (.newarray .int, 2) := by decide +kernel
theorem d_Sb_init_78 : decode b_Sb_init 78 = .ok (.putfield 43, 3) := by decide +kernel
theorem d_Sb_init_81 : decode b_Sb_init 81 = .ok (.return_, 1) := by decide +kernel
theorem d_Sb_takes_0 : decode b_Sb_takes 0 = .ok (.aload_n 1, 1) := by decide +kernel
theorem d_Sb_takes_1 : decode b_Sb_takes 1 = .ok (.invokevirtual 74, 3) := by decide +kernel
theorem d_Sb_takes_4 : decode b_Sb_takes 4 = .ok (.iconst 4, 1) := by decide +kernel
theorem d_Sb_takes_5 : decode b_Sb_takes 5 = .ok (.if_icmp .le 5, 3) := by decide +kernel
theorem d_Sb_takes_8 : decode b_Sb_takes 8 = .ok (.iconst 0, 1) := by decide +kernel
theorem d_Sb_takes_9 : decode b_Sb_takes 9 = .ok (.ireturn, 1) := by decide +kernel
theorem d_Sb_takes_10 : decode b_Sb_takes 10 = .ok (.iconst 1, 1) := by decide +kernel
theorem d_Sb_takes_11 : decode b_Sb_takes 11 = .ok (.istore_n 2, 1) := by decide +kernel
theorem d_Sb_takes_12 : decode b_Sb_takes 12 = .ok (.iconst 0, 1) := by decide +kernel
theorem d_Sb_takes_13 : decode b_Sb_takes 13 = .ok (.istore_n 3, 1) := by decide +kernel
theorem d_Sb_takes_14 : decode b_Sb_takes 14 = .ok (.iload_n 3, 1) := by decide +kernel
theorem d_Sb_takes_15 : decode b_Sb_takes 15 = .ok (.aload_n 1, 1) := by decide +kernel
theorem d_Sb_takes_16 : decode b_Sb_takes 16 = .ok (.invokevirtual 74, 3) := by decide +kernel
theorem d_Sb_takes_19 : decode b_Sb_takes 19 = .ok (.if_icmp .ge 17, 3) := by decide +kernel
theorem d_Sb_takes_22 : decode b_Sb_takes 22 = .ok (.iload_n 2, 1) := by decide +kernel
theorem d_Sb_takes_23 : decode b_Sb_takes 23 = .ok (.aload_n 1, 1) := by decide +kernel
theorem d_Sb_takes_24 : decode b_Sb_takes 24 = .ok (.iload_n 3, 1) := by decide +kernel
theorem d_Sb_takes_25 : decode b_Sb_takes 25 = .ok (.invokevirtual 79, 3) := by decide +kernel
theorem d_Sb_takes_28 : decode b_Sb_takes 28 = .ok (.imul, 1) := by decide +kernel
theorem d_Sb_takes_29 : decode b_Sb_takes 29 = .ok (.istore_n 2, 1) := by decide +kernel
theorem d_Sb_takes_30 : decode b_Sb_takes 30 = .ok (.iinc 3 1, 3) := by decide +kernel
theorem d_Sb_takes_33 : decode b_Sb_takes 33 = .ok (.goto (-19), 3) := by decide +kernel
theorem d_Sb_takes_36 : decode b_Sb_takes 36 = .ok (.iload_n 2, 1) := by decide +kernel
theorem d_Sb_takes_37 : decode b_Sb_takes 37 = .ok (.sipush 1500, 3) := by decide +kernel
theorem d_Sb_takes_40 : decode b_Sb_takes 40 = .ok (.if_icmp .le 5, 3) := by decide +kernel
theorem d_Sb_takes_43 : decode b_Sb_takes 43 = .ok (.iconst 0, 1) := by decide +kernel
theorem d_Sb_takes_44 : decode b_Sb_takes 44 = .ok (.ireturn, 1) := by decide +kernel
theorem d_Sb_takes_45 : decode b_Sb_takes 45 = .ok (.aload_n 0, 1) := by decide +kernel
theorem d_Sb_takes_46 : decode b_Sb_takes 46 = .ok (.iload_n 2, 1) := by decide +kernel
theorem d_Sb_takes_47 : decode b_Sb_takes 47 = .ok (.putfield 25, 3) := by decide +kernel
theorem d_Sb_takes_50 : decode b_Sb_takes 50 = .ok (.aload_n 0, 1) := by decide +kernel
theorem d_Sb_takes_51 : decode b_Sb_takes 51 = .ok (.aload_n 1, 1) := by decide +kernel
theorem d_Sb_takes_52 : decode b_Sb_takes 52 = .ok (.invokevirtual 82, 3) := by decide +kernel
theorem d_Sb_takes_55 : decode b_Sb_takes 55 = .ok (.aload_n 0, 1) := by decide +kernel
theorem d_Sb_takes_56 : decode b_Sb_takes 56 = .ok (.invokevirtual 86, 3) := by decide +kernel
theorem d_Sb_takes_59 : decode b_Sb_takes 59 = .ok (.iconst 1, 1) := by decide +kernel
theorem d_Sb_takes_60 : decode b_Sb_takes 60 = .ok (.ireturn, 1) := by decide +kernel
theorem d_Sb_takeInOrder_0 : decode b_Sb_takeInOrder 0 = .ok (.aload_n 0, 1) := by decide +kernel
theorem d_Sb_takeInOrder_1 : decode b_Sb_takeInOrder 1 = .ok (.aload_n 1, 1) := by decide +kernel
theorem d_Sb_takeInOrder_2 : decode b_Sb_takeInOrder 2 = .ok (.invokevirtual 74, 3) := by decide +kernel
theorem d_Sb_takeInOrder_5 : decode b_Sb_takeInOrder 5 = .ok (.putfield 21, 3) := by decide +kernel
theorem d_Sb_takeInOrder_8 : decode b_Sb_takeInOrder 8 = .ok (.iconst 0, 1) := by decide +kernel
theorem d_Sb_takeInOrder_9 : decode b_Sb_takeInOrder 9 = .ok (.istore_n 2, 1) := by decide +kernel
theorem d_Sb_takeInOrder_10 : decode b_Sb_takeInOrder 10 = .ok (.iload_n 2, 1) := by decide +kernel
theorem d_Sb_takeInOrder_11 : decode b_Sb_takeInOrder 11 = .ok (.aload_n 0, 1) := by decide +kernel
theorem d_Sb_takeInOrder_12 : decode b_Sb_takeInOrder 12 = .ok (.getfield 21, 3) := by decide +kernel
theorem d_Sb_takeInOrder_15 : decode b_Sb_takeInOrder 15 = .ok (.if_icmp .ge 87, 3) := by decide +kernel
theorem d_Sb_takeInOrder_18 : decode b_Sb_takeInOrder 18 = .ok (.iload_n 2, 1) := by decide +kernel
theorem d_Sb_takeInOrder_19 : decode b_Sb_takeInOrder 19 = .ok (.istore_n 3, 1) := by decide +kernel
theorem d_Sb_takeInOrder_20 : decode b_Sb_takeInOrder 20 = .ok (.iload_n 3, 1) := by decide +kernel
theorem d_Sb_takeInOrder_21 : decode b_Sb_takeInOrder 21 = .ok (.ifCond .le 53, 3) := by decide +kernel
theorem d_Sb_takeInOrder_24 : decode b_Sb_takeInOrder 24 = .ok (.aload_n 0, 1) := by decide +kernel
theorem d_Sb_takeInOrder_25 : decode b_Sb_takeInOrder 25 = .ok (.getfield 15, 3) := by decide +kernel
theorem d_Sb_takeInOrder_28 : decode b_Sb_takeInOrder 28 = .ok (.iload_n 3, 1) := by decide +kernel
theorem d_Sb_takeInOrder_29 : decode b_Sb_takeInOrder 29 = .ok (.iconst 1, 1) := by decide +kernel
theorem d_Sb_takeInOrder_30 : decode b_Sb_takeInOrder 30 = .ok (.isub, 1) := by decide +kernel
theorem d_Sb_takeInOrder_31 : decode b_Sb_takeInOrder 31 = .ok (.iaload, 1) := by decide +kernel
theorem d_Sb_takeInOrder_32 : decode b_Sb_takeInOrder 32 = .ok (.aload_n 1, 1) := by decide +kernel
theorem d_Sb_takeInOrder_33 : decode b_Sb_takeInOrder 33 = .ok (.iload_n 2, 1) := by decide +kernel
theorem d_Sb_takeInOrder_34 : decode b_Sb_takeInOrder 34 = .ok (.invokevirtual 79, 3) := by decide +kernel
theorem d_Sb_takeInOrder_37 : decode b_Sb_takeInOrder 37 = .ok (.if_icmp .le 37, 3) := by decide +kernel
theorem d_Sb_takeInOrder_40 : decode b_Sb_takeInOrder 40 = .ok (.aload_n 0, 1) := by decide +kernel
theorem d_Sb_takeInOrder_41 : decode b_Sb_takeInOrder 41 = .ok (.getfield 15, 3) := by decide +kernel
theorem d_Sb_takeInOrder_44 : decode b_Sb_takeInOrder 44 = .ok (.iload_n 3, 1) := by decide +kernel
theorem d_Sb_takeInOrder_45 : decode b_Sb_takeInOrder 45 = .ok (.aload_n 0, 1) := by decide +kernel
theorem d_Sb_takeInOrder_46 : decode b_Sb_takeInOrder 46 = .ok (.getfield 15, 3) := by decide +kernel
theorem d_Sb_takeInOrder_49 : decode b_Sb_takeInOrder 49 = .ok (.iload_n 3, 1) := by decide +kernel
theorem d_Sb_takeInOrder_50 : decode b_Sb_takeInOrder 50 = .ok (.iconst 1, 1) := by decide +kernel
theorem d_Sb_takeInOrder_51 : decode b_Sb_takeInOrder 51 = .ok (.isub, 1) := by decide +kernel
theorem d_Sb_takeInOrder_52 : decode b_Sb_takeInOrder 52 = .ok (.iaload, 1) := by decide +kernel
theorem d_Sb_takeInOrder_53 : decode b_Sb_takeInOrder 53 = .ok (.iastore, 1) := by decide +kernel
theorem d_Sb_takeInOrder_54 : decode b_Sb_takeInOrder 54 = .ok (.aload_n 0, 1) := by decide +kernel
theorem d_Sb_takeInOrder_55 : decode b_Sb_takeInOrder 55 = .ok (.getfield 9, 3) := by decide +kernel
theorem d_Sb_takeInOrder_58 : decode b_Sb_takeInOrder 58 = .ok (.iload_n 3, 1) := by decide +kernel
theorem d_Sb_takeInOrder_59 : decode b_Sb_takeInOrder 59 = .ok (.aload_n 0, 1) := by decide +kernel
theorem d_Sb_takeInOrder_60 : decode b_Sb_takeInOrder 60 = .ok (.getfield 9, 3) := by decide +kernel
theorem d_Sb_takeInOrder_63 : decode b_Sb_takeInOrder 63 = .ok (.iload_n 3, 1) := by decide +kernel
theorem d_Sb_takeInOrder_64 : decode b_Sb_takeInOrder 64 = .ok (.iconst 1, 1) := by decide +kernel
theorem d_Sb_takeInOrder_65 : decode b_Sb_takeInOrder 65 = .ok (.isub, 1) := by decide +kernel
theorem d_Sb_takeInOrder_66 : decode b_Sb_takeInOrder 66 = .ok (.iaload, 1) := by decide +kernel
theorem d_Sb_takeInOrder_67 : decode b_Sb_takeInOrder 67 = .ok (.iastore, 1) := by decide +kernel
theorem d_Sb_takeInOrder_68 : decode b_Sb_takeInOrder 68 = .ok (.iinc 3 (-1), 3) := by decide +kernel
theorem d_Sb_takeInOrder_71 : decode b_Sb_takeInOrder 71 = .ok (.goto (-51), 3) := by decide +kernel
theorem d_Sb_takeInOrder_74 : decode b_Sb_takeInOrder 74 = .ok (.aload_n 0, 1) := by decide +kernel
theorem d_Sb_takeInOrder_75 : decode b_Sb_takeInOrder 75 = .ok (.getfield 15, 3) := by decide +kernel
theorem d_Sb_takeInOrder_78 : decode b_Sb_takeInOrder 78 = .ok (.iload_n 3, 1) := by decide +kernel
theorem d_Sb_takeInOrder_79 : decode b_Sb_takeInOrder 79 = .ok (.aload_n 1, 1) := by decide +kernel
theorem d_Sb_takeInOrder_80 : decode b_Sb_takeInOrder 80 = .ok (.iload_n 2, 1) := by decide +kernel
theorem d_Sb_takeInOrder_81 : decode b_Sb_takeInOrder 81 = .ok (.invokevirtual 79, 3) := by decide +kernel
theorem d_Sb_takeInOrder_84 : decode b_Sb_takeInOrder 84 = .ok (.iastore, 1) := by decide +kernel
theorem d_Sb_takeInOrder_85 : decode b_Sb_takeInOrder 85 = .ok (.aload_n 0, 1) := by decide +kernel
theorem d_Sb_takeInOrder_86 : decode b_Sb_takeInOrder 86 = .ok (.getfield 9, 3) := by decide +kernel
theorem d_Sb_takeInOrder_89 : decode b_Sb_takeInOrder 89 = .ok (.iload_n 3, 1) := by decide +kernel
theorem d_Sb_takeInOrder_90 : decode b_Sb_takeInOrder 90 = .ok (.aload_n 1, 1) := by decide +kernel
theorem d_Sb_takeInOrder_91 : decode b_Sb_takeInOrder 91 = .ok (.iload_n 2, 1) := by decide +kernel
theorem d_Sb_takeInOrder_92 : decode b_Sb_takeInOrder 92 = .ok (.invokevirtual 96, 3) := by decide +kernel
theorem d_Sb_takeInOrder_95 : decode b_Sb_takeInOrder 95 = .ok (.iastore, 1) := by decide +kernel
theorem d_Sb_takeInOrder_96 : decode b_Sb_takeInOrder 96 = .ok (.iinc 2 1, 3) := by decide +kernel
theorem d_Sb_takeInOrder_99 : decode b_Sb_takeInOrder 99 = .ok (.goto (-89), 3) := by decide +kernel
theorem d_Sb_takeInOrder_102 : decode b_Sb_takeInOrder 102 = .ok (.return_, 1) := by decide +kernel
theorem d_Sb_weigh_0 : decode b_Sb_weigh 0 = .ok (.iconst 1, 1) := by decide +kernel
theorem d_Sb_weigh_1 : decode b_Sb_weigh 1 = .ok (.istore_n 1, 1) := by decide +kernel
theorem d_Sb_weigh_2 : decode b_Sb_weigh 2 = .ok (.aload_n 0, 1) := by decide +kernel
theorem d_Sb_weigh_3 : decode b_Sb_weigh 3 = .ok (.iconst 0, 1) := by decide +kernel
theorem d_Sb_weigh_4 : decode b_Sb_weigh 4 = .ok (.putfield 28, 3) := by decide +kernel
theorem d_Sb_weigh_7 : decode b_Sb_weigh 7 = .ok (.iconst 0, 1) := by decide +kernel
theorem d_Sb_weigh_8 : decode b_Sb_weigh 8 = .ok (.istore_n 2, 1) := by decide +kernel
theorem d_Sb_weigh_9 : decode b_Sb_weigh 9 = .ok (.iload_n 2, 1) := by decide +kernel
theorem d_Sb_weigh_10 : decode b_Sb_weigh 10 = .ok (.aload_n 0, 1) := by decide +kernel
theorem d_Sb_weigh_11 : decode b_Sb_weigh 11 = .ok (.getfield 21, 3) := by decide +kernel
theorem d_Sb_weigh_14 : decode b_Sb_weigh 14 = .ok (.if_icmp .ge 35, 3) := by decide +kernel
theorem d_Sb_weigh_17 : decode b_Sb_weigh 17 = .ok (.aload_n 0, 1) := by decide +kernel
theorem d_Sb_weigh_18 : decode b_Sb_weigh 18 = .ok (.getfield 18, 3) := by decide +kernel
theorem d_Sb_weigh_21 : decode b_Sb_weigh 21 = .ok (.iload_n 2, 1) := by decide +kernel
theorem d_Sb_weigh_22 : decode b_Sb_weigh 22 = .ok (.iload_n 1, 1) := by decide +kernel
theorem d_Sb_weigh_23 : decode b_Sb_weigh 23 = .ok (.iastore, 1) := by decide +kernel
theorem d_Sb_weigh_24 : decode b_Sb_weigh 24 = .ok (.aload_n 0, 1) := by decide +kernel
theorem d_Sb_weigh_25 : decode b_Sb_weigh 25 = .ok (.dup, 1) := by decide +kernel
theorem d_Sb_weigh_26 : decode b_Sb_weigh 26 = .ok (.getfield 28, 3) := by decide +kernel
theorem d_Sb_weigh_29 : decode b_Sb_weigh 29 = .ok (.iload_n 1, 1) := by decide +kernel
theorem d_Sb_weigh_30 : decode b_Sb_weigh 30 = .ok (.iadd, 1) := by decide +kernel
theorem d_Sb_weigh_31 : decode b_Sb_weigh 31 = .ok (.putfield 28, 3) := by decide +kernel
theorem d_Sb_weigh_34 : decode b_Sb_weigh 34 = .ok (.iload_n 1, 1) := by decide +kernel
theorem d_Sb_weigh_35 : decode b_Sb_weigh 35 = .ok (.aload_n 0, 1) := by decide +kernel
theorem d_Sb_weigh_36 : decode b_Sb_weigh 36 = .ok (.getfield 15, 3) := by decide +kernel
theorem d_Sb_weigh_39 : decode b_Sb_weigh 39 = .ok (.iload_n 2, 1) := by decide +kernel
theorem d_Sb_weigh_40 : decode b_Sb_weigh 40 = .ok (.iaload, 1) := by decide +kernel
theorem d_Sb_weigh_41 : decode b_Sb_weigh 41 = .ok (.imul, 1) := by decide +kernel
theorem d_Sb_weigh_42 : decode b_Sb_weigh 42 = .ok (.istore_n 1, 1) := by decide +kernel
theorem d_Sb_weigh_43 : decode b_Sb_weigh 43 = .ok (.iinc 2 1, 3) := by decide +kernel
theorem d_Sb_weigh_46 : decode b_Sb_weigh 46 = .ok (.goto (-37), 3) := by decide +kernel
theorem d_Sb_weigh_49 : decode b_Sb_weigh 49 = .ok (.return_, 1) := by decide +kernel
theorem d_Sb_startsSafe_0 : decode b_Sb_startsSafe 0 = .ok (.aload_n 0, 1) := by decide +kernel
theorem d_Sb_startsSafe_1 : decode b_Sb_startsSafe 1 = .ok (.invokevirtual 89, 3) := by decide +kernel
theorem d_Sb_startsSafe_4 : decode b_Sb_startsSafe 4 = .ok (.iconst 0, 1) := by decide +kernel
theorem d_Sb_startsSafe_5 : decode b_Sb_startsSafe 5 = .ok (.istore_n 1, 1) := by decide +kernel
theorem d_Sb_startsSafe_6 : decode b_Sb_startsSafe 6 = .ok (.iload_n 1, 1) := by decide +kernel
theorem d_Sb_startsSafe_7 : decode b_Sb_startsSafe 7 = .ok (.aload_n 0, 1) := by decide +kernel
theorem d_Sb_startsSafe_8 : decode b_Sb_startsSafe 8 = .ok (.getfield 25, 3) := by decide +kernel
theorem d_Sb_startsSafe_11 : decode b_Sb_startsSafe 11 = .ok (.if_icmp .ge 27, 3) := by decide +kernel
theorem d_Sb_startsSafe_14 : decode b_Sb_startsSafe 14 = .ok (.iload_n 1, 1) := by decide +kernel
theorem d_Sb_startsSafe_15 : decode b_Sb_startsSafe 15 = .ok (.aload_n 0, 1) := by decide +kernel
theorem d_Sb_startsSafe_16 : decode b_Sb_startsSafe 16 = .ok (.getfield 37, 3) := by decide +kernel
theorem d_Sb_startsSafe_19 : decode b_Sb_startsSafe 19 = .ok (.if_icmp .ge 19, 3) := by decide +kernel
theorem d_Sb_startsSafe_22 : decode b_Sb_startsSafe 22 = .ok (.aload_n 0, 1) := by decide +kernel
theorem d_Sb_startsSafe_23 : decode b_Sb_startsSafe 23 = .ok (.aload_n 0, 1) := by decide +kernel
theorem d_Sb_startsSafe_24 : decode b_Sb_startsSafe 24 = .ok (.getfield 34, 3) := by decide +kernel
theorem d_Sb_startsSafe_27 : decode b_Sb_startsSafe 27 = .ok (.iload_n 1, 1) := by decide +kernel
theorem d_Sb_startsSafe_28 : decode b_Sb_startsSafe 28 = .ok (.iaload, 1) := by decide +kernel
theorem d_Sb_startsSafe_29 : decode b_Sb_startsSafe 29 = .ok (.invokevirtual 92, 3) := by decide +kernel
theorem d_Sb_startsSafe_32 : decode b_Sb_startsSafe 32 = .ok (.iinc 1 1, 3) := by decide +kernel
theorem d_Sb_startsSafe_35 : decode b_Sb_startsSafe 35 = .ok (.goto (-29), 3) := by decide +kernel
theorem d_Sb_startsSafe_38 : decode b_Sb_startsSafe 38 = .ok (.aload_n 0, 1) := by decide +kernel
theorem d_Sb_startsSafe_39 : decode b_Sb_startsSafe 39 = .ok (.getfield 31, 3) := by decide +kernel
theorem d_Sb_startsSafe_42 : decode b_Sb_startsSafe 42 = .ok (.aload_n 0, 1) := by decide +kernel
theorem d_Sb_startsSafe_43 : decode b_Sb_startsSafe 43 = .ok (.getfield 25, 3) := by decide +kernel
theorem d_Sb_startsSafe_46 : decode b_Sb_startsSafe 46 = .ok (.iconst 1, 1) := by decide +kernel
theorem d_Sb_startsSafe_47 : decode b_Sb_startsSafe 47 = .ok (.isub, 1) := by decide +kernel
theorem d_Sb_startsSafe_48 : decode b_Sb_startsSafe 48 = .ok (.iaload, 1) := by decide +kernel
theorem d_Sb_startsSafe_49 : decode b_Sb_startsSafe 49 = .ok (.ifCond .le 7, 3) := by decide +kernel
theorem d_Sb_startsSafe_52 : decode b_Sb_startsSafe 52 = .ok (.iconst 1, 1) := by decide +kernel
theorem d_Sb_startsSafe_53 : decode b_Sb_startsSafe 53 = .ok (.goto 4, 3) := by decide +kernel
theorem d_Sb_startsSafe_56 : decode b_Sb_startsSafe 56 = .ok (.iconst 0, 1) := by decide +kernel
theorem d_Sb_startsSafe_57 : decode b_Sb_startsSafe 57 = .ok (.ireturn, 1) := by decide +kernel
theorem d_Sb_listDeadEnds_0 : decode b_Sb_listDeadEnds 0 = .ok (.aload_n 0, 1) := by decide +kernel
theorem d_Sb_listDeadEnds_1 : decode b_Sb_listDeadEnds 1 = .ok (.iconst 0, 1) := by decide +kernel
theorem d_Sb_listDeadEnds_2 : decode b_Sb_listDeadEnds 2 = .ok (.putfield 37, 3) := by decide +kernel
theorem d_Sb_listDeadEnds_5 : decode b_Sb_listDeadEnds 5 = .ok (.iconst 0, 1) := by decide +kernel
theorem d_Sb_listDeadEnds_6 : decode b_Sb_listDeadEnds 6 = .ok (.istore_n 1, 1) := by decide +kernel
theorem d_Sb_listDeadEnds_7 : decode b_Sb_listDeadEnds 7 = .ok (.iload_n 1, 1) := by decide +kernel
theorem d_Sb_listDeadEnds_8 : decode b_Sb_listDeadEnds 8 = .ok (.aload_n 0, 1) := by decide +kernel
theorem d_Sb_listDeadEnds_9 : decode b_Sb_listDeadEnds 9 = .ok (.getfield 25, 3) := by decide +kernel
theorem d_Sb_listDeadEnds_12 : decode b_Sb_listDeadEnds 12 = .ok (.if_icmp .ge 46, 3) := by decide +kernel
theorem d_Sb_listDeadEnds_15 : decode b_Sb_listDeadEnds 15 = .ok (.aload_n 0, 1) := by decide +kernel
theorem d_Sb_listDeadEnds_16 : decode b_Sb_listDeadEnds 16 = .ok (.getfield 31, 3) := by decide +kernel
theorem d_Sb_listDeadEnds_19 : decode b_Sb_listDeadEnds 19 = .ok (.iload_n 1, 1) := by decide +kernel
theorem d_Sb_listDeadEnds_20 : decode b_Sb_listDeadEnds 20 = .ok (.aload_n 0, 1) := by decide +kernel
theorem d_Sb_listDeadEnds_21 : decode b_Sb_listDeadEnds 21 = .ok (.iload_n 1, 1) := by decide +kernel
theorem d_Sb_listDeadEnds_22 : decode b_Sb_listDeadEnds 22 = .ok (.invokevirtual 99, 3) := by decide +kernel
theorem d_Sb_listDeadEnds_25 : decode b_Sb_listDeadEnds 25 = .ok (.iastore, 1) := by decide +kernel
theorem d_Sb_listDeadEnds_26 : decode b_Sb_listDeadEnds 26 = .ok (.aload_n 0, 1) := by decide +kernel
theorem d_Sb_listDeadEnds_27 : decode b_Sb_listDeadEnds 27 = .ok (.getfield 31, 3) := by decide +kernel
theorem d_Sb_listDeadEnds_30 : decode b_Sb_listDeadEnds 30 = .ok (.iload_n 1, 1) := by decide +kernel
theorem d_Sb_listDeadEnds_31 : decode b_Sb_listDeadEnds 31 = .ok (.iaload, 1) := by decide +kernel
theorem d_Sb_listDeadEnds_32 : decode b_Sb_listDeadEnds 32 = .ok (.ifCond .ne 20, 3) := by decide +kernel
theorem d_Sb_listDeadEnds_35 : decode b_Sb_listDeadEnds 35 = .ok (.aload_n 0, 1) := by decide +kernel
theorem d_Sb_listDeadEnds_36 : decode b_Sb_listDeadEnds 36 = .ok (.getfield 34, 3) := by decide +kernel
theorem d_Sb_listDeadEnds_39 : decode b_Sb_listDeadEnds 39 = .ok (.aload_n 0, 1) := by decide +kernel
theorem d_Sb_listDeadEnds_40 : decode b_Sb_listDeadEnds 40 = .ok (.dup, 1) := by decide +kernel
theorem d_Sb_listDeadEnds_41 : decode b_Sb_listDeadEnds 41 = .ok (.getfield 37, 3) := by decide +kernel
theorem d_Sb_listDeadEnds_44 : decode b_Sb_listDeadEnds 44 = .ok (.dup_x1, 1) := by decide +kernel
theorem d_Sb_listDeadEnds_45 : decode b_Sb_listDeadEnds 45 = .ok (.iconst 1, 1) := by decide +kernel
theorem d_Sb_listDeadEnds_46 : decode b_Sb_listDeadEnds 46 = .ok (.iadd, 1) := by decide +kernel
theorem d_Sb_listDeadEnds_47 : decode b_Sb_listDeadEnds 47 = .ok (.putfield 37, 3) := by decide +kernel
theorem d_Sb_listDeadEnds_50 : decode b_Sb_listDeadEnds 50 = .ok (.iload_n 1, 1) := by decide +kernel
theorem d_Sb_listDeadEnds_51 : decode b_Sb_listDeadEnds 51 = .ok (.iastore, 1) := by decide +kernel
theorem d_Sb_listDeadEnds_52 : decode b_Sb_listDeadEnds 52 = .ok (.iinc 1 1, 3) := by decide +kernel
theorem d_Sb_listDeadEnds_55 : decode b_Sb_listDeadEnds 55 = .ok (.goto (-48), 3) := by decide +kernel
theorem d_Sb_listDeadEnds_58 : decode b_Sb_listDeadEnds 58 = .ok (.return_, 1) := by decide +kernel
theorem d_Sb_countWaysOn_0 : decode b_Sb_countWaysOn 0 = .ok (.iconst 0, 1) := by decide +kernel
theorem d_Sb_countWaysOn_1 : decode b_Sb_countWaysOn 1 = .ok (.istore_n 2, 1) := by decide +kernel
theorem d_Sb_countWaysOn_2 : decode b_Sb_countWaysOn 2 = .ok (.iconst 0, 1) := by decide +kernel
theorem d_Sb_countWaysOn_3 : decode b_Sb_countWaysOn 3 = .ok (.istore_n 3, 1) := by decide +kernel
theorem d_Sb_countWaysOn_4 : decode b_Sb_countWaysOn 4 = .ok (.iload_n 3, 1) := by decide +kernel
theorem d_Sb_countWaysOn_5 : decode b_Sb_countWaysOn 5 = .ok (.aload_n 0, 1) := by decide +kernel
theorem d_Sb_countWaysOn_6 : decode b_Sb_countWaysOn 6 = .ok (.getfield 21, 3) := by decide +kernel
theorem d_Sb_countWaysOn_9 : decode b_Sb_countWaysOn 9 = .ok (.if_icmp .ge 21, 3) := by decide +kernel
theorem d_Sb_countWaysOn_12 : decode b_Sb_countWaysOn 12 = .ok (.aload_n 0, 1) := by decide +kernel
theorem d_Sb_countWaysOn_13 : decode b_Sb_countWaysOn 13 = .ok (.iload_n 1, 1) := by decide +kernel
theorem d_Sb_countWaysOn_14 : decode b_Sb_countWaysOn 14 = .ok (.iload_n 3, 1) := by decide +kernel
theorem d_Sb_countWaysOn_15 : decode b_Sb_countWaysOn 15 = .ok (.invokevirtual 102, 3) := by decide +kernel
theorem d_Sb_countWaysOn_18 : decode b_Sb_countWaysOn 18 = .ok (.ifCond .ne 6, 3) := by decide +kernel
theorem d_Sb_countWaysOn_21 : decode b_Sb_countWaysOn 21 = .ok (.iinc 2 1, 3) := by decide +kernel
theorem d_Sb_countWaysOn_24 : decode b_Sb_countWaysOn 24 = .ok (.iinc 3 1, 3) := by decide +kernel
theorem d_Sb_countWaysOn_27 : decode b_Sb_countWaysOn 27 = .ok (.goto (-23), 3) := by decide +kernel
theorem d_Sb_countWaysOn_30 : decode b_Sb_countWaysOn 30 = .ok (.iload_n 2, 1) := by decide +kernel
theorem d_Sb_countWaysOn_31 : decode b_Sb_countWaysOn 31 = .ok (.ifCond .ne 8, 3) := by decide +kernel
theorem d_Sb_countWaysOn_34 : decode b_Sb_countWaysOn 34 = .ok (.aload_n 0, 1) := by decide +kernel
theorem d_Sb_countWaysOn_35 : decode b_Sb_countWaysOn 35 = .ok (.getfield 21, 3) := by decide +kernel
theorem d_Sb_countWaysOn_38 : decode b_Sb_countWaysOn 38 = .ok (.ireturn, 1) := by decide +kernel
theorem d_Sb_countWaysOn_39 : decode b_Sb_countWaysOn 39 = .ok (.iload_n 2, 1) := by decide +kernel
theorem d_Sb_countWaysOn_40 : decode b_Sb_countWaysOn 40 = .ok (.iconst 1, 1) := by decide +kernel
theorem d_Sb_countWaysOn_41 : decode b_Sb_countWaysOn 41 = .ok (.if_icmp .ne 7, 3) := by decide +kernel
theorem d_Sb_countWaysOn_44 : decode b_Sb_countWaysOn 44 = .ok (.iconst 1, 1) := by decide +kernel
theorem d_Sb_countWaysOn_45 : decode b_Sb_countWaysOn 45 = .ok (.goto 4, 3) := by decide +kernel
theorem d_Sb_countWaysOn_48 : decode b_Sb_countWaysOn 48 = .ok (.iconst 0, 1) := by decide +kernel
theorem d_Sb_countWaysOn_49 : decode b_Sb_countWaysOn 49 = .ok (.ireturn, 1) := by decide +kernel
theorem d_Sb_digit_0 : decode b_Sb_digit 0 = .ok (.aload_n 0, 1) := by decide +kernel
theorem d_Sb_digit_1 : decode b_Sb_digit 1 = .ok (.getfield 18, 3) := by decide +kernel
theorem d_Sb_digit_4 : decode b_Sb_digit 4 = .ok (.iload_n 2, 1) := by decide +kernel
theorem d_Sb_digit_5 : decode b_Sb_digit 5 = .ok (.iaload, 1) := by decide +kernel
theorem d_Sb_digit_6 : decode b_Sb_digit 6 = .ok (.ifCond .le 30, 3) := by decide +kernel
theorem d_Sb_digit_9 : decode b_Sb_digit 9 = .ok (.aload_n 0, 1) := by decide +kernel
theorem d_Sb_digit_10 : decode b_Sb_digit 10 = .ok (.getfield 15, 3) := by decide +kernel
theorem d_Sb_digit_13 : decode b_Sb_digit 13 = .ok (.iload_n 2, 1) := by decide +kernel
theorem d_Sb_digit_14 : decode b_Sb_digit 14 = .ok (.iaload, 1) := by decide +kernel
theorem d_Sb_digit_15 : decode b_Sb_digit 15 = .ok (.ifCond .le 21, 3) := by decide +kernel
theorem d_Sb_digit_18 : decode b_Sb_digit 18 = .ok (.iload_n 1, 1) := by decide +kernel
theorem d_Sb_digit_19 : decode b_Sb_digit 19 = .ok (.aload_n 0, 1) := by decide +kernel
theorem d_Sb_digit_20 : decode b_Sb_digit 20 = .ok (.getfield 18, 3) := by decide +kernel
theorem d_Sb_digit_23 : decode b_Sb_digit 23 = .ok (.iload_n 2, 1) := by decide +kernel
theorem d_Sb_digit_24 : decode b_Sb_digit 24 = .ok (.iaload, 1) := by decide +kernel
theorem d_Sb_digit_25 : decode b_Sb_digit 25 = .ok (.idiv, 1) := by decide +kernel
theorem d_Sb_digit_26 : decode b_Sb_digit 26 = .ok (.aload_n 0, 1) := by decide +kernel
theorem d_Sb_digit_27 : decode b_Sb_digit 27 = .ok (.getfield 15, 3) := by decide +kernel
theorem d_Sb_digit_30 : decode b_Sb_digit 30 = .ok (.iload_n 2, 1) := by decide +kernel
theorem d_Sb_digit_31 : decode b_Sb_digit 31 = .ok (.iaload, 1) := by decide +kernel
theorem d_Sb_digit_32 : decode b_Sb_digit 32 = .ok (.irem, 1) := by decide +kernel
theorem d_Sb_digit_33 : decode b_Sb_digit 33 = .ok (.goto 4, 3) := by decide +kernel
theorem d_Sb_digit_36 : decode b_Sb_digit 36 = .ok (.iconst 0, 1) := by decide +kernel
theorem d_Sb_digit_37 : decode b_Sb_digit 37 = .ok (.ireturn, 1) := by decide +kernel
theorem d_Sb_strikeWaysTo_0 : decode b_Sb_strikeWaysTo 0 = .ok (.iconst 0, 1) := by decide +kernel
theorem d_Sb_strikeWaysTo_1 : decode b_Sb_strikeWaysTo 1 = .ok (.istore_n 2, 1) := by decide +kernel
theorem d_Sb_strikeWaysTo_2 : decode b_Sb_strikeWaysTo 2 = .ok (.iload_n 2, 1) := by decide +kernel
theorem d_Sb_strikeWaysTo_3 : decode b_Sb_strikeWaysTo 3 = .ok (.aload_n 0, 1) := by decide +kernel
theorem d_Sb_strikeWaysTo_4 : decode b_Sb_strikeWaysTo 4 = .ok (.getfield 21, 3) := by decide +kernel
theorem d_Sb_strikeWaysTo_7 : decode b_Sb_strikeWaysTo 7 = .ok (.if_icmp .ge 74, 3) := by decide +kernel
theorem d_Sb_strikeWaysTo_10 : decode b_Sb_strikeWaysTo 10 = .ok (.aload_n 0, 1) := by decide +kernel
theorem d_Sb_strikeWaysTo_11 : decode b_Sb_strikeWaysTo 11 = .ok (.iload_n 1, 1) := by decide +kernel
theorem d_Sb_strikeWaysTo_12 : decode b_Sb_strikeWaysTo 12 = .ok (.iload_n 2, 1) := by decide +kernel
theorem d_Sb_strikeWaysTo_13 : decode b_Sb_strikeWaysTo 13 = .ok (.invokevirtual 105, 3) := by decide +kernel
theorem d_Sb_strikeWaysTo_16 : decode b_Sb_strikeWaysTo 16 = .ok (.ifCond .eq 59, 3) := by decide +kernel
theorem d_Sb_strikeWaysTo_19 : decode b_Sb_strikeWaysTo 19 = .ok (.iload_n 1, 1) := by decide +kernel
theorem d_Sb_strikeWaysTo_20 : decode b_Sb_strikeWaysTo 20 = .ok (.aload_n 0, 1) := by decide +kernel
theorem d_Sb_strikeWaysTo_21 : decode b_Sb_strikeWaysTo 21 = .ok (.getfield 28, 3) := by decide +kernel
theorem d_Sb_strikeWaysTo_24 : decode b_Sb_strikeWaysTo 24 = .ok (.iadd, 1) := by decide +kernel
theorem d_Sb_strikeWaysTo_25 : decode b_Sb_strikeWaysTo 25 = .ok (.aload_n 0, 1) := by decide +kernel
theorem d_Sb_strikeWaysTo_26 : decode b_Sb_strikeWaysTo 26 = .ok (.getfield 18, 3) := by decide +kernel
theorem d_Sb_strikeWaysTo_29 : decode b_Sb_strikeWaysTo 29 = .ok (.iload_n 2, 1) := by decide +kernel
theorem d_Sb_strikeWaysTo_30 : decode b_Sb_strikeWaysTo 30 = .ok (.iaload, 1) := by decide +kernel
theorem d_Sb_strikeWaysTo_31 : decode b_Sb_strikeWaysTo 31 = .ok (.aload_n 0, 1) := by decide +kernel
theorem d_Sb_strikeWaysTo_32 : decode b_Sb_strikeWaysTo 32 = .ok (.getfield 15, 3) := by decide +kernel
theorem d_Sb_strikeWaysTo_35 : decode b_Sb_strikeWaysTo 35 = .ok (.iload_n 2, 1) := by decide +kernel
theorem d_Sb_strikeWaysTo_36 : decode b_Sb_strikeWaysTo 36 = .ok (.iaload, 1) := by decide +kernel
theorem d_Sb_strikeWaysTo_37 : decode b_Sb_strikeWaysTo 37 = .ok (.imul, 1) := by decide +kernel
theorem d_Sb_strikeWaysTo_38 : decode b_Sb_strikeWaysTo 38 = .ok (.isub, 1) := by decide +kernel
theorem d_Sb_strikeWaysTo_39 : decode b_Sb_strikeWaysTo 39 = .ok (.istore_n 3, 1) := by decide +kernel
theorem d_Sb_strikeWaysTo_40 : decode b_Sb_strikeWaysTo 40 = .ok (.iconst 0, 1) := by decide +kernel
theorem d_Sb_strikeWaysTo_41 : decode b_Sb_strikeWaysTo 41 = .ok (.istore 4, 2) := by decide +kernel
theorem d_Sb_strikeWaysTo_43 : decode b_Sb_strikeWaysTo 43 = .ok (.iload 4, 2) := by decide +kernel
theorem d_Sb_strikeWaysTo_45 : decode b_Sb_strikeWaysTo 45 = .ok (.aload_n 0, 1) := by decide +kernel
theorem d_Sb_strikeWaysTo_46 : decode b_Sb_strikeWaysTo 46 = .ok (.getfield 15, 3) := by decide +kernel
theorem d_Sb_strikeWaysTo_49 : decode b_Sb_strikeWaysTo 49 = .ok (.iload_n 2, 1) := by decide +kernel
theorem d_Sb_strikeWaysTo_50 : decode b_Sb_strikeWaysTo 50 = .ok (.iaload, 1) := by decide +kernel
theorem d_Sb_strikeWaysTo_51 : decode b_Sb_strikeWaysTo 51 = .ok (.if_icmp .ge 24, 3) := by decide +kernel
theorem d_Sb_strikeWaysTo_54 : decode b_Sb_strikeWaysTo 54 = .ok (.aload_n 0, 1) := by decide +kernel
theorem d_Sb_strikeWaysTo_55 : decode b_Sb_strikeWaysTo 55 = .ok (.iload_n 3, 1) := by decide +kernel
theorem d_Sb_strikeWaysTo_56 : decode b_Sb_strikeWaysTo 56 = .ok (.iload 4, 2) := by decide +kernel
theorem d_Sb_strikeWaysTo_58 : decode b_Sb_strikeWaysTo 58 = .ok (.aload_n 0, 1) := by decide +kernel
theorem d_Sb_strikeWaysTo_59 : decode b_Sb_strikeWaysTo 59 = .ok (.getfield 18, 3) := by decide +kernel
theorem d_Sb_strikeWaysTo_62 : decode b_Sb_strikeWaysTo 62 = .ok (.iload_n 2, 1) := by decide +kernel
theorem d_Sb_strikeWaysTo_63 : decode b_Sb_strikeWaysTo 63 = .ok (.iaload, 1) := by decide +kernel
theorem d_Sb_strikeWaysTo_64 : decode b_Sb_strikeWaysTo 64 = .ok (.imul, 1) := by decide +kernel
theorem d_Sb_strikeWaysTo_65 : decode b_Sb_strikeWaysTo 65 = .ok (.iadd, 1) := by decide +kernel
theorem d_Sb_strikeWaysTo_66 : decode b_Sb_strikeWaysTo 66 = .ok (.invokevirtual 109, 3) := by decide +kernel
theorem d_Sb_strikeWaysTo_69 : decode b_Sb_strikeWaysTo 69 = .ok (.iinc 4 1, 3) := by decide +kernel
theorem d_Sb_strikeWaysTo_72 : decode b_Sb_strikeWaysTo 72 = .ok (.goto (-29), 3) := by decide +kernel
theorem d_Sb_strikeWaysTo_75 : decode b_Sb_strikeWaysTo 75 = .ok (.iinc 2 1, 3) := by decide +kernel
theorem d_Sb_strikeWaysTo_78 : decode b_Sb_strikeWaysTo 78 = .ok (.goto (-76), 3) := by decide +kernel
theorem d_Sb_strikeWaysTo_81 : decode b_Sb_strikeWaysTo 81 = .ok (.return_, 1) := by decide +kernel
theorem d_Sb_canComeFrom_0 : decode b_Sb_canComeFrom 0 = .ok (.iconst 0, 1) := by decide +kernel
theorem d_Sb_canComeFrom_1 : decode b_Sb_canComeFrom 1 = .ok (.istore_n 3, 1) := by decide +kernel
theorem d_Sb_canComeFrom_2 : decode b_Sb_canComeFrom 2 = .ok (.iload_n 3, 1) := by decide +kernel
theorem d_Sb_canComeFrom_3 : decode b_Sb_canComeFrom 3 = .ok (.aload_n 0, 1) := by decide +kernel
theorem d_Sb_canComeFrom_4 : decode b_Sb_canComeFrom 4 = .ok (.getfield 21, 3) := by decide +kernel
theorem d_Sb_canComeFrom_7 : decode b_Sb_canComeFrom 7 = .ok (.if_icmp .ge 50, 3) := by decide +kernel
theorem d_Sb_canComeFrom_10 : decode b_Sb_canComeFrom 10 = .ok (.aload_n 0, 1) := by decide +kernel
theorem d_Sb_canComeFrom_11 : decode b_Sb_canComeFrom 11 = .ok (.iload_n 1, 1) := by decide +kernel
theorem d_Sb_canComeFrom_12 : decode b_Sb_canComeFrom 12 = .ok (.iload_n 3, 1) := by decide +kernel
theorem d_Sb_canComeFrom_13 : decode b_Sb_canComeFrom 13 = .ok (.invokevirtual 102, 3) := by decide +kernel
theorem d_Sb_canComeFrom_16 : decode b_Sb_canComeFrom 16 = .ok (.aload_n 0, 1) := by decide +kernel
theorem d_Sb_canComeFrom_17 : decode b_Sb_canComeFrom 17 = .ok (.getfield 15, 3) := by decide +kernel
theorem d_Sb_canComeFrom_20 : decode b_Sb_canComeFrom 20 = .ok (.iload_n 3, 1) := by decide +kernel
theorem d_Sb_canComeFrom_21 : decode b_Sb_canComeFrom 21 = .ok (.iaload, 1) := by decide +kernel
theorem d_Sb_canComeFrom_22 : decode b_Sb_canComeFrom 22 = .ok (.iconst 1, 1) := by decide +kernel
theorem d_Sb_canComeFrom_23 : decode b_Sb_canComeFrom 23 = .ok (.isub, 1) := by decide +kernel
theorem d_Sb_canComeFrom_24 : decode b_Sb_canComeFrom 24 = .ok (.if_icmp .ne 7, 3) := by decide +kernel
theorem d_Sb_canComeFrom_27 : decode b_Sb_canComeFrom 27 = .ok (.iconst 1, 1) := by decide +kernel
theorem d_Sb_canComeFrom_28 : decode b_Sb_canComeFrom 28 = .ok (.goto 4, 3) := by decide +kernel
