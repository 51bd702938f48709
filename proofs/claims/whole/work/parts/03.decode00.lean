theorem d_Pk_init_0 : decode b_Pk_init 0 = .ok (.aload_n 0, 1) := by decide +kernel
theorem d_Pk_init_1 : decode b_Pk_init 1 = .ok (.invokespecial 1, 3) := by decide +kernel
theorem d_Pk_init_4 : decode b_Pk_init 4 = .ok (.aload_n 0, 1) := by decide +kernel
theorem d_Pk_init_5 : decode b_Pk_init 5 = .ok (.new 7, 3) := by decide +kernel
theorem d_Pk_init_8 : decode b_Pk_init 8 = .ok (.dup, 1) := by decide +kernel
theorem d_Pk_init_9 : decode b_Pk_init 9 = .ok (.invokespecial 9, 3) := by decide +kernel
theorem d_Pk_init_12 : decode b_Pk_init 12 = .ok (.putfield 10, 3) := by decide +kernel
theorem d_Pk_init_15 : decode b_Pk_init 15 = .ok (.aload_n 0, 1) := by decide +kernel
theorem d_Pk_init_16 : decode b_Pk_init 16 = .ok (.aconst_null, 1) := by decide +kernel
theorem d_Pk_init_17 : decode b_Pk_init 17 = .ok (.putfield 16, 3) := by decide +kernel
theorem d_Pk_init_20 : decode b_Pk_init 20 = .ok (.aload_n 0, 1) := by decide +kernel
theorem d_Pk_init_21 : decode b_Pk_init 21 = .ok (.new 20, 3) := by decide +kernel
theorem d_Pk_init_24 : decode b_Pk_init 24 = .ok (.dup, 1) := by decide +kernel
theorem d_Pk_init_25 : decode b_Pk_init 25 = .ok (.invokespecial 22, 3) := by decide +kernel
theorem d_Pk_init_28 : decode b_Pk_init 28 = .ok (.putfield 23, 3) := by decide +kernel
theorem d_Pk_init_31 : decode b_Pk_init 31 = .ok (.aload_n 0, 1) := by decide +kernel
theorem d_Pk_init_32 : decode b_Pk_init 32 = .ok (.new 20, 3) := by decide +kernel
theorem d_Pk_init_35 : decode b_Pk_init 35 = .ok (.dup, 1) := by decide +kernel
theorem d_Pk_init_36 : decode b_Pk_init 36 = .ok (.invokespecial 22, 3) := by decide +kernel
theorem d_Pk_init_39 : decode b_Pk_init 39 = .ok (.putfield 27, 3) := by decide +kernel
theorem d_Pk_init_42 : decode b_Pk_init 42 = .ok (.aload_n 0, 1) := by decide +kernel
theorem d_Pk_init_43 : decode b_Pk_init 43 = .ok (.new 30, 3) := by decide +kernel
theorem d_Pk_init_46 : decode b_Pk_init 46 = .ok (.dup, 1) := by decide +kernel
theorem d_Pk_init_47 : decode b_Pk_init 47 = .ok (.invokespecial 32, 3) := by decide +kernel
theorem d_Pk_init_50 : decode b_Pk_init 50 = .ok (.putfield 33, 3) := by decide +kernel
theorem d_Pk_init_53 : decode b_Pk_init 53 = .ok (.aload_n 0, 1) := by decide +kernel
theorem d_Pk_init_54 : decode b_Pk_init 54 = .ok (.new 30, 3) := by decide +kernel
theorem d_Pk_init_57 : decode b_Pk_init 57 = .ok (.dup, 1) := by decide +kernel
theorem d_Pk_init_58 : decode b_Pk_init 58 = .ok (.invokespecial 32, 3) := by decide +kernel
theorem d_Pk_init_61 : decode b_Pk_init 61 = .ok (.putfield 37, 3) := by decide +kernel
theorem d_Pk_init_64 : decode b_Pk_init 64 = .ok (.aload_n 0, 1) := by decide +kernel
theorem d_Pk_init_65 : decode b_Pk_init 65 = .ok (.iconst 0, 1) := by decide +kernel
theorem d_Pk_init_66 : decode b_Pk_init 66 = .ok (.putfield 40, 3) := by decide +kernel
theorem d_Pk_init_69 : decode b_Pk_init 69 = .ok (.aload_n 0, 1) := by decide +kernel
theorem d_Pk_init_70 : decode b_Pk_init 70 = .ok (.iconst 0, 1) := by decide +kernel
theorem d_Pk_init_71 : decode b_Pk_init 71 = .ok (.putfield 44, 3) := by decide +kernel
theorem d_Pk_init_74 : decode b_Pk_init 74 = .ok (.aload_n 0, 1) := by decide +kernel
theorem d_Pk_init_75 : decode b_Pk_init 75 = .ok (.iconst 0, 1) := by decide +kernel
theorem d_Pk_init_76 : decode b_Pk_init 76 = .ok (.putfield 48, 3) := by decide +kernel
theorem d_Pk_init_79 : decode b_Pk_init 79 = .ok (.aload_n 0, 1) := by decide +kernel
theorem d_Pk_init_80 : decode b_Pk_init 80 = .ok (.iconst 0, 1) := by decide +kernel
theorem d_Pk_init_81 : decode b_Pk_init 81 = .ok (.putfield 51, 3) := by decide +kernel
theorem d_Pk_init_84 : decode b_Pk_init 84 = .ok (.aload_n 0, 1) := by decide +kernel
theorem d_Pk_init_85 : decode b_Pk_init 85 = .ok (.iconst 0, 1) := by decide +kernel
theorem d_Pk_init_86 : decode b_Pk_init 86 = .ok (.putfield 54, 3) := by decide +kernel
theorem d_Pk_init_89 : decode b_Pk_init 89 = .ok (.return_, 1) := by decide +kernel
theorem d_Rb_init_0 : decode b_Rb_init 0 = .ok (.aload_n 0, 1) := by decide +kernel
theorem d_Rb_init_1 : decode b_Rb_init 1 = .ok (.invokespecial 3, 3) := by decide +kernel
theorem d_Rb_init_4 : decode b_Rb_init 4 = .ok (.aload_n 0, 1) := by decide +kernel
theorem d_Rb_init_5 : decode b_Rb_init 5 = .ok (.bipush 10, 2) := by decide +kernel
theorem d_Rb_init_7 : decode b_Rb_init 7 = .ok (.newarray .int, 2) := by decide +kernel
theorem d_Rb_init_9 : decode b_Rb_init 9 = .ok (.putfield 9, 3) := by decide +kernel
theorem d_Rb_init_12 : decode b_Rb_init 12 = .ok (.return_, 1) := by decide +kernel
theorem d_Cl_init_0 : decode b_Cl_init 0 = .ok (.aload_n 0, 1) := by decide +kernel
theorem d_Cl_init_1 : decode b_Cl_init 1 = .ok (.invokespecial 3, 3) := by decide +kernel
theorem d_Cl_init_4 : decode b_Cl_init 4 = .ok (.aload_n 0, 1) := by decide +kernel
theorem d_Cl_init_5 : decode b_Cl_init 5 = .ok (.bipush 10, 2) := by decide +kernel
theorem d_Cl_init_7 : decode b_Cl_init 7 = .ok (.newarray .int, 2) := by decide +kernel
theorem d_Cl_init_9 : decode b_Cl_init 9 = .ok (.putfield 9, 3) := by decide +kernel
theorem d_Cl_init_12 : decode b_Cl_init 12 = .ok (.aload_n 0, 1) := by decide +kernel
theorem d_Cl_init_13 : decode b_Cl_init 13 = .ok (.bipush 10, 2) := by decide +kernel
theorem d_Cl_init_15 : decode b_Cl_init 15 = .ok (.newarray .int, 2) := by decide +kernel
theorem d_Cl_init_17 : decode b_Cl_init 17 = .ok (.putfield 15, 3) := by decide +kernel
theorem d_Cl_init_20 : decode b_Cl_init 20 = .ok (.aload_n 0, 1) := by decide +kernel
theorem d_Cl_init_21 : decode b_Cl_init 21 = .ok (.bipush 10, 2) := by decide +kernel
theorem d_Cl_init_23 : decode b_Cl_init 23 = .ok (.newarray .int, 2) := by decide +kernel
theorem d_Cl_init_25 : decode b_Cl_init 25 = .ok (.putfield 18, 3) := by decide +kernel
theorem d_Cl_init_28 : decode b_Cl_init 28 = .ok (.aload_n 0, 1) := by decide +kernel
theorem d_Cl_init_29 : decode b_Cl_init 29 = .ok (.bipush 10, 2) := by decide +kernel
theorem d_Cl_init_31 : decode b_Cl_init 31 = .ok (.newarray .int, 2) := by decide +kernel
theorem d_Cl_init_33 : decode b_Cl_init 33 = .ok (.putfield 21, 3) := by decide +kernel
theorem d_Cl_init_36 : decode b_Cl_init 36 = .ok (.aload_n 0, 1) := by decide +kernel
theorem d_Cl_init_37 : decode b_Cl_init 37 = .ok (.iconst 0, 1) := by decide +kernel
theorem d_Cl_init_38 : decode b_Cl_init 38 = .ok (.putfield 24, 3) := by decide +kernel
theorem d_Cl_init_41 : decode b_Cl_init 41 = .ok (.return_, 1) := by decide +kernel
theorem d_Cy_init_0 : decode b_Cy_init 0 = .ok (.aload_n 0, 1) := by decide +kernel
theorem d_Cy_init_1 : decode b_Cy_init 1 = .ok (.invokespecial 3, 3) := by decide +kernel
theorem d_Cy_init_4 : decode b_Cy_init 4 = .ok (.aload_n 0, 1) := by decide +kernel
theorem d_Cy_init_5 : decode b_Cy_init 5 = .ok (.bipush 40, 2) := by decide +kernel
theorem d_Cy_init_7 : decode b_Cy_init 7 = .ok (.newarray .int, 2) := by decide +kernel
theorem d_Cy_init_9 : decode b_Cy_init 9 = .ok (.putfield 9, 3) := by decide +kernel
theorem d_Cy_init_12 : decode b_Cy_init 12 = .ok (.aload_n 0, 1) := by decide +kernel
theorem d_Cy_init_13 : decode b_Cy_init 13 = .ok (.iconst 1, 1) := by decide +kernel
theorem d_Cy_init_14 : decode b_Cy_init 14 = .ok (.putfield 15, 3) := by decide +kernel
theorem d_Cy_init_17 : decode b_Cy_init 17 = .ok (.aload_n 0, 1) := by decide +kernel
theorem d_Cy_init_18 : decode b_Cy_init 18 = .ok (.iconst 0, 1) := by decide +kernel
theorem d_Cy_init_19 : decode b_Cy_init 19 = .ok (.putfield 19, 3) := by decide +kernel
theorem d_Cy_init_22 : decode b_Cy_init 22 = .ok (.return_, 1) := by decide +kernel
theorem d_Pk_slot_0 : decode b_Pk_slot 0 = .ok (.aload_n 0, 1) := by decide +kernel
theorem d_Pk_slot_1 : decode b_Pk_slot 1 = .ok (.getfield 40, 3) := by decide +kernel
theorem d_Pk_slot_4 : decode b_Pk_slot 4 = .ok (.ifCond .eq 7, 3) := by decide +kernel
theorem d_Pk_slot_7 : decode b_Pk_slot 7 = .ok (.aload_n 0, 1) := by decide +kernel
theorem d_Pk_slot_8 : decode b_Pk_slot 8 = .ok (.invokevirtual 95, 3) := by decide +kernel
theorem d_Pk_slot_11 : decode b_Pk_slot 11 = .ok (.aload_n 0, 1) := by decide +kernel
theorem d_Pk_slot_12 : decode b_Pk_slot 12 = .ok (.getfield 33, 3) := by decide +kernel
theorem d_Pk_slot_15 : decode b_Pk_slot 15 = .ok (.aload_n 0, 1) := by decide +kernel
theorem d_Pk_slot_16 : decode b_Pk_slot 16 = .ok (.getfield 44, 3) := by decide +kernel
theorem d_Pk_slot_19 : decode b_Pk_slot 19 = .ok (.invokevirtual 98, 3) := by decide +kernel
theorem d_Pk_slot_22 : decode b_Pk_slot 22 = .ok (.istore_n 1, 1) := by decide +kernel
theorem d_Pk_slot_23 : decode b_Pk_slot 23 = .ok (.iload_n 1, 1) := by decide +kernel
theorem d_Pk_slot_24 : decode b_Pk_slot 24 = .ok (.ifCond .ne 13, 3) := by decide +kernel
theorem d_Pk_slot_27 : decode b_Pk_slot 27 = .ok (.aload_n 0, 1) := by decide +kernel
theorem d_Pk_slot_28 : decode b_Pk_slot 28 = .ok (.getfield 48, 3) := by decide +kernel
theorem d_Pk_slot_31 : decode b_Pk_slot 31 = .ok (.istore_n 1, 1) := by decide +kernel
theorem d_Pk_slot_32 : decode b_Pk_slot 32 = .ok (.aload_n 0, 1) := by decide +kernel
theorem d_Pk_slot_33 : decode b_Pk_slot 33 = .ok (.iconst 0, 1) := by decide +kernel
theorem d_Pk_slot_34 : decode b_Pk_slot 34 = .ok (.putfield 48, 3) := by decide +kernel
theorem d_Pk_slot_37 : decode b_Pk_slot 37 = .ok (.aload_n 0, 1) := by decide +kernel
theorem d_Pk_slot_38 : decode b_Pk_slot 38 = .ok (.getfield 23, 3) := by decide +kernel
theorem d_Pk_slot_41 : decode b_Pk_slot 41 = .ok (.iload_n 1, 1) := by decide +kernel
theorem d_Pk_slot_42 : decode b_Pk_slot 42 = .ok (.invokevirtual 101, 3) := by decide +kernel
theorem d_Pk_slot_45 : decode b_Pk_slot 45 = .ok (.aload_n 0, 1) := by decide +kernel
theorem d_Pk_slot_46 : decode b_Pk_slot 46 = .ok (.aload_n 0, 1) := by decide +kernel
theorem d_Pk_slot_47 : decode b_Pk_slot 47 = .ok (.getfield 33, 3) := by decide +kernel
theorem d_Pk_slot_50 : decode b_Pk_slot 50 = .ok (.aload_n 0, 1) := by decide +kernel
theorem d_Pk_slot_51 : decode b_Pk_slot 51 = .ok (.getfield 44, 3) := by decide +kernel
theorem d_Pk_slot_54 : decode b_Pk_slot 54 = .ok (.invokevirtual 104, 3) := by decide +kernel
theorem d_Pk_slot_57 : decode b_Pk_slot 57 = .ok (.putfield 44, 3) := by decide +kernel
theorem d_Pk_slot_60 : decode b_Pk_slot 60 = .ok (.aload_n 0, 1) := by decide +kernel
theorem d_Pk_slot_61 : decode b_Pk_slot 61 = .ok (.dup, 1) := by decide +kernel
theorem d_Pk_slot_62 : decode b_Pk_slot 62 = .ok (.getfield 54, 3) := by decide +kernel
theorem d_Pk_slot_65 : decode b_Pk_slot 65 = .ok (.iconst 1, 1) := by decide +kernel
theorem d_Pk_slot_66 : decode b_Pk_slot 66 = .ok (.iadd, 1) := by decide +kernel
theorem d_Pk_slot_67 : decode b_Pk_slot 67 = .ok (.putfield 54, 3) := by decide +kernel
theorem d_Pk_slot_70 : decode b_Pk_slot 70 = .ok (.iload_n 1, 1) := by decide +kernel
theorem d_Pk_slot_71 : decode b_Pk_slot 71 = .ok (.ireturn, 1) := by decide +kernel
theorem d_Pk_lookForSeam_0 : decode b_Pk_lookForSeam 0 = .ok (.aload_n 0, 1) := by decide +kernel
theorem d_Pk_lookForSeam_1 : decode b_Pk_lookForSeam 1 = .ok (.getfield 27, 3) := by decide +kernel
theorem d_Pk_lookForSeam_4 : decode b_Pk_lookForSeam 4 = .ok (.aload_n 0, 1) := by decide +kernel
theorem d_Pk_lookForSeam_5 : decode b_Pk_lookForSeam 5 = .ok (.getfield 23, 3) := by decide +kernel
theorem d_Pk_lookForSeam_8 : decode b_Pk_lookForSeam 8 = .ok (.invokevirtual 160, 3) := by decide +kernel
theorem d_Pk_lookForSeam_11 : decode b_Pk_lookForSeam 11 = .ok (.aload_n 0, 1) := by decide +kernel
theorem d_Pk_lookForSeam_12 : decode b_Pk_lookForSeam 12 = .ok (.getfield 37, 3) := by decide +kernel
theorem d_Pk_lookForSeam_15 : decode b_Pk_lookForSeam 15 = .ok (.aload_n 0, 1) := by decide +kernel
theorem d_Pk_lookForSeam_16 : decode b_Pk_lookForSeam 16 = .ok (.getfield 27, 3) := by decide +kernel
theorem d_Pk_lookForSeam_19 : decode b_Pk_lookForSeam 19 = .ok (.invokevirtual 163, 3) := by decide +kernel
theorem d_Pk_lookForSeam_22 : decode b_Pk_lookForSeam 22 = .ok (.istore_n 1, 1) := by decide +kernel
theorem d_Pk_lookForSeam_23 : decode b_Pk_lookForSeam 23 = .ok (.iload_n 1, 1) := by decide +kernel
theorem d_Pk_lookForSeam_24 : decode b_Pk_lookForSeam 24 = .ok (.iconst (-1), 1) := by decide +kernel
theorem d_Pk_lookForSeam_25 : decode b_Pk_lookForSeam 25 = .ok (.if_icmp .ne 16, 3) := by decide +kernel
theorem d_Pk_lookForSeam_28 : decode b_Pk_lookForSeam 28 = .ok (.aload_n 0, 1) := by decide +kernel
theorem d_Pk_lookForSeam_29 : decode b_Pk_lookForSeam 29 = .ok (.dup, 1) := by decide +kernel
theorem d_Pk_lookForSeam_30 : decode b_Pk_lookForSeam 30 = .ok (.getfield 51, 3) := by decide +kernel
theorem d_Pk_lookForSeam_33 : decode b_Pk_lookForSeam 33 = .ok (.iconst 1, 1) := by decide +kernel
theorem d_Pk_lookForSeam_34 : decode b_Pk_lookForSeam 34 = .ok (.iadd, 1) := by decide +kernel
theorem d_Pk_lookForSeam_35 : decode b_Pk_lookForSeam 35 = .ok (.putfield 51, 3) := by decide +kernel
theorem d_Pk_lookForSeam_38 : decode b_Pk_lookForSeam 38 = .ok (.goto 8, 3) := by decide +kernel
theorem d_Pk_lookForSeam_41 : decode b_Pk_lookForSeam 41 = .ok (.aload_n 0, 1) := by decide +kernel
theorem d_Pk_lookForSeam_42 : decode b_Pk_lookForSeam 42 = .ok (.iload_n 1, 1) := by decide +kernel
theorem d_Pk_lookForSeam_43 : decode b_Pk_lookForSeam 43 = .ok (.invokevirtual 167, 3) := by decide +kernel
theorem d_Pk_lookForSeam_46 : decode b_Pk_lookForSeam 46 = .ok (.return_, 1) := by decide +kernel
theorem d_Cl_takeTimesFrom_0 : decode b_Cl_takeTimesFrom 0 = .ok (.iconst 0, 1) := by decide +kernel
theorem d_Cl_takeTimesFrom_1 : decode b_Cl_takeTimesFrom 1 = .ok (.istore_n 2, 1) := by decide +kernel
theorem d_Cl_takeTimesFrom_2 : decode b_Cl_takeTimesFrom 2 = .ok (.iload_n 2, 1) := by decide +kernel
theorem d_Cl_takeTimesFrom_3 : decode b_Cl_takeTimesFrom 3 = .ok (.aload_n 0, 1) := by decide +kernel
theorem d_Cl_takeTimesFrom_4 : decode b_Cl_takeTimesFrom 4 = .ok (.getfield 24, 3) := by decide +kernel
theorem d_Cl_takeTimesFrom_7 : decode b_Cl_takeTimesFrom 7 = .ok (.if_icmp .ge 32, 3) := by decide +kernel
theorem d_Cl_takeTimesFrom_10 : decode b_Cl_takeTimesFrom 10 = .ok (.aload_n 1, 1) := by decide +kernel
theorem d_Cl_takeTimesFrom_11 : decode b_Cl_takeTimesFrom 11 = .ok (.aload_n 0, 1) := by decide +kernel
theorem d_Cl_takeTimesFrom_12 : decode b_Cl_takeTimesFrom 12 = .ok (.getfield 9, 3) := by decide +kernel
theorem d_Cl_takeTimesFrom_15 : decode b_Cl_takeTimesFrom 15 = .ok (.iload_n 2, 1) := by decide +kernel
theorem d_Cl_takeTimesFrom_16 : decode b_Cl_takeTimesFrom 16 = .ok (.iaload, 1) := by decide +kernel
theorem d_Cl_takeTimesFrom_17 : decode b_Cl_takeTimesFrom 17 = .ok (.invokevirtual 38, 3) := by decide +kernel
theorem d_Cl_takeTimesFrom_20 : decode b_Cl_takeTimesFrom 20 = .ok (.istore_n 3, 1) := by decide +kernel
theorem d_Cl_takeTimesFrom_21 : decode b_Cl_takeTimesFrom 21 = .ok (.iload_n 3, 1) := by decide +kernel
theorem d_Cl_takeTimesFrom_22 : decode b_Cl_takeTimesFrom 22 = .ok (.iconst (-1), 1) := by decide +kernel
theorem d_Cl_takeTimesFrom_23 : decode b_Cl_takeTimesFrom 23 = .ok (.if_icmp .eq 10, 3) := by decide +kernel
theorem d_Cl_takeTimesFrom_26 : decode b_Cl_takeTimesFrom 26 = .ok (.aload_n 0, 1) := by decide +kernel
theorem d_Cl_takeTimesFrom_27 : decode b_Cl_takeTimesFrom 27 = .ok (.iload_n 2, 1) := by decide +kernel
theorem d_Cl_takeTimesFrom_28 : decode b_Cl_takeTimesFrom 28 = .ok (.aload_n 1, 1) := by decide +kernel
theorem d_Cl_takeTimesFrom_29 : decode b_Cl_takeTimesFrom 29 = .ok (.iload_n 3, 1) := by decide +kernel
theorem d_Cl_takeTimesFrom_30 : decode b_Cl_takeTimesFrom 30 = .ok (.invokevirtual 34, 3) := by decide +kernel
theorem d_Cl_takeTimesFrom_33 : decode b_Cl_takeTimesFrom 33 = .ok (.iinc 2 1, 3) := by decide +kernel
theorem d_Cl_takeTimesFrom_36 : decode b_Cl_takeTimesFrom 36 = .ok (.goto (-34), 3) := by decide +kernel
theorem d_Cl_takeTimesFrom_39 : decode b_Cl_takeTimesFrom 39 = .ok (.return_, 1) := by decide +kernel
theorem d_Cl_find_0 : decode b_Cl_find 0 = .ok (.iconst 0, 1) := by decide +kernel
theorem d_Cl_find_1 : decode b_Cl_find 1 = .ok (.istore_n 2, 1) := by decide +kernel
theorem d_Cl_find_2 : decode b_Cl_find 2 = .ok (.iload_n 2, 1) := by decide +kernel
theorem d_Cl_find_3 : decode b_Cl_find 3 = .ok (.aload_n 0, 1) := by decide +kernel
theorem d_Cl_find_4 : decode b_Cl_find 4 = .ok (.getfield 24, 3) := by decide +kernel
theorem d_Cl_find_7 : decode b_Cl_find 7 = .ok (.if_icmp .ge 21, 3) := by decide +kernel
theorem d_Cl_find_10 : decode b_Cl_find 10 = .ok (.aload_n 0, 1) := by decide +kernel
theorem d_Cl_find_11 : decode b_Cl_find 11 = .ok (.getfield 9, 3) := by decide +kernel
theorem d_Cl_find_14 : decode b_Cl_find 14 = .ok (.iload_n 2, 1) := by decide +kernel
theorem d_Cl_find_15 : decode b_Cl_find 15 = .ok (.iaload, 1) := by decide +kernel
theorem d_Cl_find_16 : decode b_Cl_find 16 = .ok (.iload_n 1, 1) := by decide +kernel
theorem d_Cl_find_17 : decode b_Cl_find 17 = .ok (.if_icmp .ne 5, 3) := by decide +kernel
theorem d_Cl_find_20 : decode b_Cl_find 20 = .ok (.iload_n 2, 1) := by decide +kernel
theorem d_Cl_find_21 : decode b_Cl_find 21 = .ok (.ireturn, 1) := by decide +kernel
theorem d_Cl_find_22 : decode b_Cl_find 22 = .ok (.iinc 2 1, 3) := by decide +kernel
theorem d_Cl_find_25 : decode b_Cl_find 25 = .ok (.goto (-23), 3) := by decide +kernel
theorem d_Cl_find_28 : decode b_Cl_find 28 = .ok (.iconst (-1), 1) := by decide +kernel
theorem d_Cl_find_29 : decode b_Cl_find 29 = .ok (.ireturn, 1) := by decide +kernel
theorem d_Cl_copyAt_0 : decode b_Cl_copyAt 0 = .ok (.aload_n 0, 1) := by decide +kernel
theorem d_Cl_copyAt_1 : decode b_Cl_copyAt 1 = .ok (.getfield 9, 3) := by decide +kernel
theorem d_Cl_copyAt_4 : decode b_Cl_copyAt 4 = .ok (.iload_n 1, 1) := by decide +kernel
theorem d_Cl_copyAt_5 : decode b_Cl_copyAt 5 = .ok (.aload_n 2, 1) := by decide +kernel
theorem d_Cl_copyAt_6 : decode b_Cl_copyAt 6 = .ok (.getfield 9, 3) := by decide +kernel
theorem d_Cl_copyAt_9 : decode b_Cl_copyAt 9 = .ok (.iload_n 3, 1) := by decide +kernel
theorem d_Cl_copyAt_10 : decode b_Cl_copyAt 10 = .ok (.iaload, 1) := by decide +kernel
theorem d_Cl_copyAt_11 : decode b_Cl_copyAt 11 = .ok (.iastore, 1) := by decide +kernel
theorem d_Cl_copyAt_12 : decode b_Cl_copyAt 12 = .ok (.aload_n 0, 1) := by decide +kernel
theorem d_Cl_copyAt_13 : decode b_Cl_copyAt 13 = .ok (.getfield 15, 3) := by decide +kernel
theorem d_Cl_copyAt_16 : decode b_Cl_copyAt 16 = .ok (.iload_n 1, 1) := by decide +kernel
theorem d_Cl_copyAt_17 : decode b_Cl_copyAt 17 = .ok (.aload_n 2, 1) := by decide +kernel
theorem d_Cl_copyAt_18 : decode b_Cl_copyAt 18 = .ok (.getfield 15, 3) := by decide +kernel
theorem d_Cl_copyAt_21 : decode b_Cl_copyAt 21 = .ok (.iload_n 3, 1) := by decide +kernel
theorem d_Cl_copyAt_22 : decode b_Cl_copyAt 22 = .ok (.iaload, 1) := by decide +kernel
theorem d_Cl_copyAt_23 : decode b_Cl_copyAt 23 = .ok (.iastore, 1) := by decide +kernel
theorem d_Cl_copyAt_24 : decode b_Cl_copyAt 24 = .ok (.aload_n 0, 1) := by decide +kernel
theorem d_Cl_copyAt_25 : decode b_Cl_copyAt 25 = .ok (.getfield 18, 3) := by decide +kernel
theorem d_Cl_copyAt_28 : decode b_Cl_copyAt 28 = .ok (.iload_n 1, 1) := by decide +kernel
theorem d_Cl_copyAt_29 : decode b_Cl_copyAt 29 = .ok (.aload_n 2, 1) := by decide +kernel
theorem d_Cl_copyAt_30 : decode b_Cl_copyAt 30 = .ok (.getfield 18, 3) := by decide +kernel
theorem d_Cl_copyAt_33 : decode b_Cl_copyAt 33 = .ok (.iload_n 3, 1) := by decide +kernel
theorem d_Cl_copyAt_34 : decode b_Cl_copyAt 34 = .ok (.iaload, 1) := by decide +kernel
theorem d_Cl_copyAt_35 : decode b_Cl_copyAt 35 = .ok (.iastore, 1) := by decide +kernel
theorem d_Cl_copyAt_36 : decode b_Cl_copyAt 36 = .ok (.aload_n 0, 1) := by decide +kernel
theorem d_Cl_copyAt_37 : decode b_Cl_copyAt 37 = .ok (.getfield 21, 3) := by decide +kernel
theorem d_Cl_copyAt_40 : decode b_Cl_copyAt 40 = .ok (.iload_n 1, 1) := by decide +kernel
theorem d_Cl_copyAt_41 : decode b_Cl_copyAt 41 = .ok (.aload_n 2, 1) := by decide +kernel
theorem d_Cl_copyAt_42 : decode b_Cl_copyAt 42 = .ok (.getfield 21, 3) := by decide +kernel
theorem d_Cl_copyAt_45 : decode b_Cl_copyAt 45 = .ok (.iload_n 3, 1) := by decide +kernel
theorem d_Cl_copyAt_46 : decode b_Cl_copyAt 46 = .ok (.iaload, 1) := by decide +kernel
theorem d_Cl_copyAt_47 : decode b_Cl_copyAt 47 = .ok (.iastore, 1) := by decide +kernel
theorem d_Cl_copyAt_48 : decode b_Cl_copyAt 48 = .ok (.return_, 1) := by decide +kernel
theorem d_Cy_seamFor_0 : decode b_Cy_seamFor 0 = .ok (.iconst 0, 1) := by decide +kernel
theorem d_Cy_seamFor_1 : decode b_Cy_seamFor 1 = .ok (.istore_n 2, 1) := by decide +kernel
theorem d_Cy_seamFor_2 : decode b_Cy_seamFor 2 = .ok (.iload_n 2, 1) := by decide +kernel
theorem d_Cy_seamFor_3 : decode b_Cy_seamFor 3 = .ok (.aload_n 0, 1) := by decide +kernel
theorem d_Cy_seamFor_4 : decode b_Cy_seamFor 4 = .ok (.getfield 15, 3) := by decide +kernel
theorem d_Cy_seamFor_7 : decode b_Cy_seamFor 7 = .ok (.if_icmp .ge 20, 3) := by decide +kernel
theorem d_Cy_seamFor_10 : decode b_Cy_seamFor 10 = .ok (.aload_n 0, 1) := by decide +kernel
theorem d_Cy_seamFor_11 : decode b_Cy_seamFor 11 = .ok (.iload_n 2, 1) := by decide +kernel
theorem d_Cy_seamFor_12 : decode b_Cy_seamFor 12 = .ok (.aload_n 1, 1) := by decide +kernel
theorem d_Cy_seamFor_13 : decode b_Cy_seamFor 13 = .ok (.invokevirtual 42, 3) := by decide +kernel
theorem d_Cy_seamFor_16 : decode b_Cy_seamFor 16 = .ok (.ifCond .eq 5, 3) := by decide +kernel
theorem d_Cy_seamFor_19 : decode b_Cy_seamFor 19 = .ok (.iload_n 2, 1) := by decide +kernel
theorem d_Cy_seamFor_20 : decode b_Cy_seamFor 20 = .ok (.ireturn, 1) := by decide +kernel
theorem d_Cy_seamFor_21 : decode b_Cy_seamFor 21 = .ok (.iinc 2 1, 3) := by decide +kernel
theorem d_Cy_seamFor_24 : decode b_Cy_seamFor 24 = .ok (.goto (-22), 3) := by decide +kernel
theorem d_Cy_seamFor_27 : decode b_Cy_seamFor 27 = .ok (.iconst (-1), 1) := by decide +kernel
theorem d_Cy_seamFor_28 : decode b_Cy_seamFor 28 = .ok (.ireturn, 1) := by decide +kernel
theorem d_Cy_canGoOnFrom_0 : decode b_Cy_canGoOnFrom 0 = .ok (.iconst 0, 1) := by decide +kernel
theorem d_Cy_canGoOnFrom_1 : decode b_Cy_canGoOnFrom 1 = .ok (.istore_n 3, 1) := by decide +kernel
theorem d_Cy_canGoOnFrom_2 : decode b_Cy_canGoOnFrom 2 = .ok (.iload_n 3, 1) := by decide +kernel
theorem d_Cy_canGoOnFrom_3 : decode b_Cy_canGoOnFrom 3 = .ok (.aload_n 2, 1) := by decide +kernel
theorem d_Cy_canGoOnFrom_4 : decode b_Cy_canGoOnFrom 4 = .ok (.invokevirtual 46, 3) := by decide +kernel
theorem d_Cy_canGoOnFrom_7 : decode b_Cy_canGoOnFrom 7 = .ok (.if_icmp .ge 35, 3) := by decide +kernel
theorem d_Cy_canGoOnFrom_10 : decode b_Cy_canGoOnFrom 10 = .ok (.aload_n 0, 1) := by decide +kernel
theorem d_Cy_canGoOnFrom_11 : decode b_Cy_canGoOnFrom 11 = .ok (.aload_n 2, 1) := by decide +kernel
theorem d_Cy_canGoOnFrom_12 : decode b_Cy_canGoOnFrom 12 = .ok (.iload_n 3, 1) := by decide +kernel
theorem d_Cy_canGoOnFrom_13 : decode b_Cy_canGoOnFrom 13 = .ok (.invokevirtual 51, 3) := by decide +kernel
theorem d_Cy_canGoOnFrom_16 : decode b_Cy_canGoOnFrom 16 = .ok (.aload_n 2, 1) := by decide +kernel
theorem d_Cy_canGoOnFrom_17 : decode b_Cy_canGoOnFrom 17 = .ok (.iload_n 3, 1) := by decide +kernel
theorem d_Cy_canGoOnFrom_18 : decode b_Cy_canGoOnFrom 18 = .ok (.invokevirtual 55, 3) := by decide +kernel
theorem d_Cy_canGoOnFrom_21 : decode b_Cy_canGoOnFrom 21 = .ok (.isub, 1) := by decide +kernel
theorem d_Cy_canGoOnFrom_22 : decode b_Cy_canGoOnFrom 22 = .ok (.iload_n 1, 1) := by decide +kernel
theorem d_Cy_canGoOnFrom_23 : decode b_Cy_canGoOnFrom 23 = .ok (.aload_n 2, 1) := by decide +kernel
theorem d_Cy_canGoOnFrom_24 : decode b_Cy_canGoOnFrom 24 = .ok (.iload_n 3, 1) := by decide +kernel
theorem d_Cy_canGoOnFrom_25 : decode b_Cy_canGoOnFrom 25 = .ok (.invokevirtual 58, 3) := by decide +kernel
theorem d_Cy_canGoOnFrom_28 : decode b_Cy_canGoOnFrom 28 = .ok (.invokevirtual 61, 3) := by decide +kernel
theorem d_Cy_canGoOnFrom_31 : decode b_Cy_canGoOnFrom 31 = .ok (.ifCond .ne 5, 3) := by decide +kernel
theorem d_Cy_canGoOnFrom_34 : decode b_Cy_canGoOnFrom 34 = .ok (.iconst 0, 1) := by decide +kernel
theorem d_Cy_canGoOnFrom_35 : decode b_Cy_canGoOnFrom 35 = .ok (.ireturn, 1) := by decide +kernel
theorem d_Cy_canGoOnFrom_36 : decode b_Cy_canGoOnFrom 36 = .ok (.iinc 3 1, 3) := by decide +kernel
theorem d_Cy_canGoOnFrom_39 : decode b_Cy_canGoOnFrom 39 = .ok (.goto (-37), 3) := by decide +kernel
theorem d_Cy_canGoOnFrom_42 : decode b_Cy_canGoOnFrom 42 = .ok (.iconst 1, 1) := by decide +kernel
theorem d_Cy_canGoOnFrom_43 : decode b_Cy_canGoOnFrom 43 = .ok (.ireturn, 1) := by decide +kernel
theorem d_Cl_count_0 : decode b_Cl_count 0 = .ok (.aload_n 0, 1) := by decide +kernel
theorem d_Cl_count_1 : decode b_Cl_count 1 = .ok (.getfield 24, 3) := by decide +kernel
theorem d_Cl_count_4 : decode b_Cl_count 4 = .ok (.ireturn, 1) := by decide +kernel
theorem d_Cl_spanAt_0 : decode b_Cl_spanAt 0 = .ok (.aload_n 0, 1) := by decide +kernel
theorem d_Cl_spanAt_1 : decode b_Cl_spanAt 1 = .ok (.getfield 15, 3) := by decide +kernel
theorem d_Cl_spanAt_4 : decode b_Cl_spanAt 4 = .ok (.iload_n 1, 1) := by decide +kernel
theorem d_Cl_spanAt_5 : decode b_Cl_spanAt 5 = .ok (.iaload, 1) := by decide +kernel
theorem d_Cl_spanAt_6 : decode b_Cl_spanAt 6 = .ok (.ireturn, 1) := by decide +kernel
theorem d_Cl_waitAt_0 : decode b_Cl_waitAt 0 = .ok (.aload_n 0, 1) := by decide +kernel
theorem d_Cl_waitAt_1 : decode b_Cl_waitAt 1 = .ok (.getfield 18, 3) := by decide +kernel
theorem d_Cl_waitAt_4 : decode b_Cl_waitAt 4 = .ok (.iload_n 1, 1) := by decide +kernel
theorem d_Cl_waitAt_5 : decode b_Cl_waitAt 5 = .ok (.iaload, 1) := by decide +kernel
theorem d_Cl_waitAt_6 : decode b_Cl_waitAt 6 = .ok (.ireturn, 1) := by decide +kernel
theorem d_Cl_idAt_0 : decode b_Cl_idAt 0 = .ok (.aload_n 0, 1) := by decide +kernel
theorem d_Cl_idAt_1 : decode b_Cl_idAt 1 = .ok (.getfield 9, 3) := by decide +kernel
theorem d_Cl_idAt_4 : decode b_Cl_idAt 4 = .ok (.iload_n 1, 1) := by decide +kernel
theorem d_Cl_idAt_5 : decode b_Cl_idAt 5 = .ok (.iaload, 1) := by decide +kernel
theorem d_Cl_idAt_6 : decode b_Cl_idAt 6 = .ok (.ireturn, 1) := by decide +kernel
theorem d_Cy_comesWithin_0 : decode b_Cy_comesWithin 0 = .ok (.iload_n 2, 1) := by decide +kernel
theorem d_Cy_comesWithin_1 : decode b_Cy_comesWithin 1 = .ok (.istore 4, 2) := by decide +kernel
theorem d_Cy_comesWithin_3 : decode b_Cy_comesWithin 3 = .ok (.iconst 0, 1) := by decide +kernel
theorem d_Cy_comesWithin_4 : decode b_Cy_comesWithin 4 = .ok (.istore 5, 2) := by decide +kernel
theorem d_Cy_comesWithin_6 : decode b_Cy_comesWithin 6 = .ok (.iload 5, 2) := by decide +kernel
theorem d_Cy_comesWithin_8 : decode b_Cy_comesWithin 8 = .ok (.iload_n 1, 1) := by decide +kernel
theorem d_Cy_comesWithin_9 : decode b_Cy_comesWithin 9 = .ok (.if_icmp .ge 30, 3) := by decide +kernel
theorem d_Cy_comesWithin_12 : decode b_Cy_comesWithin 12 = .ok (.aload_n 0, 1) := by decide +kernel
theorem d_Cy_comesWithin_13 : decode b_Cy_comesWithin 13 = .ok (.getfield 9, 3) := by decide +kernel
theorem d_Cy_comesWithin_16 : decode b_Cy_comesWithin 16 = .ok (.iload 4, 2) := by decide +kernel
theorem d_Cy_comesWithin_18 : decode b_Cy_comesWithin 18 = .ok (.iaload, 1) := by decide +kernel
theorem d_Cy_comesWithin_19 : decode b_Cy_comesWithin 19 = .ok (.iload_n 3, 1) := by decide +kernel
theorem d_Cy_comesWithin_20 : decode b_Cy_comesWithin 20 = .ok (.if_icmp .ne 5, 3) := by decide +kernel
theorem d_Cy_comesWithin_23 : decode b_Cy_comesWithin 23 = .ok (.iconst 1, 1) := by decide +kernel
theorem d_Cy_comesWithin_24 : decode b_Cy_comesWithin 24 = .ok (.ireturn, 1) := by decide +kernel
theorem d_Cy_comesWithin_25 : decode b_Cy_comesWithin 25 = .ok (.aload_n 0, 1) := by decide +kernel
theorem d_Cy_comesWithin_26 : decode b_Cy_comesWithin 26 = .ok (.iload 4, 2) := by decide +kernel
theorem d_Cy_comesWithin_28 : decode b_Cy_comesWithin 28 = .ok (.invokevirtual 65, 3) := by decide +kernel
theorem d_Cy_comesWithin_31 : decode b_Cy_comesWithin 31 = .ok (.istore 4, 2) := by decide +kernel
theorem d_Cy_comesWithin_33 : decode b_Cy_comesWithin 33 = .ok (.iinc 5 1, 3) := by decide +kernel
theorem d_Cy_comesWithin_36 : decode b_Cy_comesWithin 36 = .ok (.goto (-30), 3) := by decide +kernel
theorem d_Cy_comesWithin_39 : decode b_Cy_comesWithin 39 = .ok (.iconst 0, 1) := by decide +kernel
theorem d_Cy_comesWithin_40 : decode b_Cy_comesWithin 40 = .ok (.ireturn, 1) := by decide +kernel
theorem d_Cy_placeAfter_0 : decode b_Cy_placeAfter 0 = .ok (.iload_n 1, 1) := by decide +kernel
theorem d_Cy_placeAfter_1 : decode b_Cy_placeAfter 1 = .ok (.iconst 1, 1) := by decide +kernel
theorem d_Cy_placeAfter_2 : decode b_Cy_placeAfter 2 = .ok (.iadd, 1) := by decide +kernel
theorem d_Cy_placeAfter_3 : decode b_Cy_placeAfter 3 = .ok (.aload_n 0, 1) := by decide +kernel
theorem d_Cy_placeAfter_4 : decode b_Cy_placeAfter 4 = .ok (.getfield 15, 3) := by decide +kernel
theorem d_Cy_placeAfter_7 : decode b_Cy_placeAfter 7 = .ok (.if_icmp .ge 9, 3) := by decide +kernel
theorem d_Cy_placeAfter_10 : decode b_Cy_placeAfter 10 = .ok (.iload_n 1, 1) := by decide +kernel
theorem d_Cy_placeAfter_11 : decode b_Cy_placeAfter 11 = .ok (.iconst 1, 1) := by decide +kernel
theorem d_Cy_placeAfter_12 : decode b_Cy_placeAfter 12 = .ok (.iadd, 1) := by decide +kernel
theorem d_Cy_placeAfter_13 : decode b_Cy_placeAfter 13 = .ok (.goto 4, 3) := by decide +kernel
theorem d_Cy_placeAfter_16 : decode b_Cy_placeAfter 16 = .ok (.iconst 0, 1) := by decide +kernel
theorem d_Cy_placeAfter_17 : decode b_Cy_placeAfter 17 = .ok (.ireturn, 1) := by decide +kernel
theorem d_Pk_goOver_0 : decode b_Pk_goOver 0 = .ok (.aload_n 0, 1) := by decide +kernel
theorem d_Pk_goOver_1 : decode b_Pk_goOver 1 = .ok (.getfield 23, 3) := by decide +kernel
theorem d_Pk_goOver_4 : decode b_Pk_goOver 4 = .ok (.astore_n 2, 1) := by decide +kernel
theorem d_Pk_goOver_5 : decode b_Pk_goOver 5 = .ok (.aload_n 0, 1) := by decide +kernel
theorem d_Pk_goOver_6 : decode b_Pk_goOver 6 = .ok (.aload_n 0, 1) := by decide +kernel
theorem d_Pk_goOver_7 : decode b_Pk_goOver 7 = .ok (.getfield 27, 3) := by decide +kernel
theorem d_Pk_goOver_10 : decode b_Pk_goOver 10 = .ok (.putfield 23, 3) := by decide +kernel
theorem d_Pk_goOver_13 : decode b_Pk_goOver 13 = .ok (.aload_n 0, 1) := by decide +kernel
theorem d_Pk_goOver_14 : decode b_Pk_goOver 14 = .ok (.aload_n 2, 1) := by decide +kernel
theorem d_Pk_goOver_15 : decode b_Pk_goOver 15 = .ok (.putfield 27, 3) := by decide +kernel
theorem d_Pk_goOver_18 : decode b_Pk_goOver 18 = .ok (.aload_n 0, 1) := by decide +kernel
theorem d_Pk_goOver_19 : decode b_Pk_goOver 19 = .ok (.getfield 33, 3) := by decide +kernel
theorem d_Pk_goOver_22 : decode b_Pk_goOver 22 = .ok (.astore_n 3, 1) := by decide +kernel
theorem d_Pk_goOver_23 : decode b_Pk_goOver 23 = .ok (.aload_n 0, 1) := by decide +kernel
theorem d_Pk_goOver_24 : decode b_Pk_goOver 24 = .ok (.aload_n 0, 1) := by decide +kernel
theorem d_Pk_goOver_25 : decode b_Pk_goOver 25 = .ok (.getfield 37, 3) := by decide +kernel
theorem d_Pk_goOver_28 : decode b_Pk_goOver 28 = .ok (.putfield 33, 3) := by decide +kernel
theorem d_Pk_goOver_31 : decode b_Pk_goOver 31 = .ok (.aload_n 0, 1) := by decide +kernel
theorem d_Pk_goOver_32 : decode b_Pk_goOver 32 = .ok (.aload_n 3, 1) := by decide +kernel
theorem d_Pk_goOver_33 : decode b_Pk_goOver 33 = .ok (.putfield 37, 3) := by decide +kernel
theorem d_Pk_goOver_36 : decode b_Pk_goOver 36 = .ok (.aload_n 0, 1) := by decide +kernel
theorem d_Pk_goOver_37 : decode b_Pk_goOver 37 = .ok (.iconst 0, 1) := by decide +kernel
theorem d_Pk_goOver_38 : decode b_Pk_goOver 38 = .ok (.putfield 40, 3) := by decide +kernel
theorem d_Pk_goOver_41 : decode b_Pk_goOver 41 = .ok (.aload_n 0, 1) := by decide +kernel
theorem d_Pk_goOver_42 : decode b_Pk_goOver 42 = .ok (.iload_n 1, 1) := by decide +kernel
theorem d_Pk_goOver_43 : decode b_Pk_goOver 43 = .ok (.putfield 44, 3) := by decide +kernel
theorem d_Pk_goOver_46 : decode b_Pk_goOver 46 = .ok (.aload_n 0, 1) := by decide +kernel
theorem d_Pk_goOver_47 : decode b_Pk_goOver 47 = .ok (.getfield 23, 3) := by decide +kernel
theorem d_Pk_goOver_50 : decode b_Pk_goOver 50 = .ok (.aload_n 0, 1) := by decide +kernel
theorem d_Pk_goOver_51 : decode b_Pk_goOver 51 = .ok (.getfield 48, 3) := by decide +kernel
theorem d_Pk_goOver_54 : decode b_Pk_goOver 54 = .ok (.invokevirtual 57, 3) := by decide +kernel
theorem d_Pk_goOver_57 : decode b_Pk_goOver 57 = .ok (.iconst (-1), 1) := by decide +kernel
theorem d_Pk_goOver_58 : decode b_Pk_goOver 58 = .ok (.if_icmp .ne 8, 3) := by decide +kernel
theorem d_Pk_goOver_61 : decode b_Pk_goOver 61 = .ok (.aload_n 0, 1) := by decide +kernel
theorem d_Pk_goOver_62 : decode b_Pk_goOver 62 = .ok (.iconst 0, 1) := by decide +kernel
theorem d_Pk_goOver_63 : decode b_Pk_goOver 63 = .ok (.putfield 48, 3) := by decide +kernel
theorem d_Pk_goOver_66 : decode b_Pk_goOver 66 = .ok (.return_, 1) := by decide +kernel
theorem d_Cy_idAt_0 : decode b_Cy_idAt 0 = .ok (.aload_n 0, 1) := by decide +kernel
theorem d_Cy_idAt_1 : decode b_Cy_idAt 1 = .ok (.getfield 9, 3) := by decide +kernel
theorem d_Cy_idAt_4 : decode b_Cy_idAt 4 = .ok (.iload_n 1, 1) := by decide +kernel
theorem d_Cy_idAt_5 : decode b_Cy_idAt 5 = .ok (.iaload, 1) := by decide +kernel
theorem d_Cy_idAt_6 : decode b_Cy_idAt 6 = .ok (.ireturn, 1) := by decide +kernel
theorem d_Cl_passSlot_0 : decode b_Cl_passSlot 0 = .ok (.iconst 0, 1) := by decide +kernel
theorem d_Cl_passSlot_1 : decode b_Cl_passSlot 1 = .ok (.istore_n 2, 1) := by decide +kernel
theorem d_Cl_passSlot_2 : decode b_Cl_passSlot 2 = .ok (.iload_n 2, 1) := by decide +kernel
theorem d_Cl_passSlot_3 : decode b_Cl_passSlot 3 = .ok (.aload_n 0, 1) := by decide +kernel
theorem d_Cl_passSlot_4 : decode b_Cl_passSlot 4 = .ok (.getfield 24, 3) := by decide +kernel
theorem d_Cl_passSlot_7 : decode b_Cl_passSlot 7 = .ok (.if_icmp .ge 58, 3) := by decide +kernel
theorem d_Cl_passSlot_10 : decode b_Cl_passSlot 10 = .ok (.aload_n 0, 1) := by decide +kernel
theorem d_Cl_passSlot_11 : decode b_Cl_passSlot 11 = .ok (.getfield 18, 3) := by decide +kernel
theorem d_Cl_passSlot_14 : decode b_Cl_passSlot 14 = .ok (.iload_n 2, 1) := by decide +kernel
theorem d_Cl_passSlot_15 : decode b_Cl_passSlot 15 = .ok (.aload_n 0, 1) := by decide +kernel
theorem d_Cl_passSlot_16 : decode b_Cl_passSlot 16 = .ok (.getfield 9, 3) := by decide +kernel
theorem d_Cl_passSlot_19 : decode b_Cl_passSlot 19 = .ok (.iload_n 2, 1) := by decide +kernel
theorem d_Cl_passSlot_20 : decode b_Cl_passSlot 20 = .ok (.iaload, 1) := by decide +kernel
theorem d_Cl_passSlot_21 : decode b_Cl_passSlot 21 = .ok (.iload_n 1, 1) := by decide +kernel
theorem d_Cl_passSlot_22 : decode b_Cl_passSlot 22 = .ok (.if_icmp .ne 7, 3) := by decide +kernel
theorem d_Cl_passSlot_25 : decode b_Cl_passSlot 25 = .ok (.iconst 0, 1) := by decide +kernel
theorem d_Cl_passSlot_26 : decode b_Cl_passSlot 26 = .ok (.goto 11, 3) := by decide +kernel
theorem d_Cl_passSlot_29 : decode b_Cl_passSlot 29 = .ok (.aload_n 0, 1) := by decide +kernel
theorem d_Cl_passSlot_30 : decode b_Cl_passSlot 30 = .ok (.getfield 18, 3) := by decide +kernel
theorem d_Cl_passSlot_33 : decode b_Cl_passSlot 33 = .ok (.iload_n 2, 1) := by decide +kernel
theorem d_Cl_passSlot_34 : decode b_Cl_passSlot 34 = .ok (.iaload, 1) := by decide +kernel
theorem d_Cl_passSlot_35 : decode b_Cl_passSlot 35 = .ok (.iconst 1, 1) := by decide +kernel
theorem d_Cl_passSlot_36 : decode b_Cl_passSlot 36 = .ok (.iadd, 1) := by decide +kernel
theorem d_Cl_passSlot_37 : decode b_Cl_passSlot 37 = .ok (.iastore, 1) := by decide +kernel
theorem d_Cl_passSlot_38 : decode b_Cl_passSlot 38 = .ok (.aload_n 0, 1) := by decide +kernel
theorem d_Cl_passSlot_39 : decode b_Cl_passSlot 39 = .ok (.getfield 21, 3) := by decide +kernel
theorem d_Cl_passSlot_42 : decode b_Cl_passSlot 42 = .ok (.iload_n 2, 1) := by decide +kernel
theorem d_Cl_passSlot_43 : decode b_Cl_passSlot 43 = .ok (.aload_n 0, 1) := by decide +kernel
theorem d_Cl_passSlot_44 : decode b_Cl_passSlot 44 = .ok (.getfield 21, 3) := by decide +kernel
theorem d_Cl_passSlot_47 : decode b_Cl_passSlot 47 = .ok (.iload_n 2, 1) := by decide +kernel
theorem d_Cl_passSlot_48 : decode b_Cl_passSlot 48 = .ok (.iaload, 1) := by decide +kernel
theorem d_Cl_passSlot_49 : decode b_Cl_passSlot 49 = .ok (.aload_n 0, 1) := by decide +kernel
theorem d_Cl_passSlot_50 : decode b_Cl_passSlot 50 = .ok (.getfield 18, 3) := by decide +kernel
theorem d_Cl_passSlot_53 : decode b_Cl_passSlot 53 = .ok (.iload_n 2, 1) := by decide +kernel
theorem d_Cl_passSlot_54 : decode b_Cl_passSlot 54 = .ok (.iaload, 1) := by decide +kernel
theorem d_Cl_passSlot_55 : decode b_Cl_passSlot 55 = .ok (.invokestatic 42, 3) := by decide +kernel
