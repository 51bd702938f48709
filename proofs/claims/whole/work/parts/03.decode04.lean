theorem d_Pk_wish_23 : decode b_Pk_wish 23 = .ok (.putfield 48, 3) := by decide +kernel
theorem d_Pk_wish_26 : decode b_Pk_wish 26 = .ok (.return_, 1) := by decide +kernel
theorem d_Lw_waited_0 : decode b_Lw_waited 0 = .ok (.aload_n 2, 1) := by decide +kernel
theorem d_Lw_waited_1 : decode b_Lw_waited 1 = .ok (.iconst 0, 1) := by decide +kernel
theorem d_Lw_waited_2 : decode b_Lw_waited 2 = .ok (.aload_n 0, 1) := by decide +kernel
theorem d_Lw_waited_3 : decode b_Lw_waited 3 = .ok (.iload_n 1, 1) := by decide +kernel
theorem d_Lw_waited_4 : decode b_Lw_waited 4 = .ok (.invokevirtual 29, 3) := by decide +kernel
theorem d_Lw_waited_7 : decode b_Lw_waited 7 = .ok (.i2l, 1) := by decide +kernel
theorem d_Lw_waited_8 : decode b_Lw_waited 8 = .ok (.lastore, 1) := by decide +kernel
theorem d_Lw_waited_9 : decode b_Lw_waited 9 = .ok (.goto 6, 3) := by decide +kernel
theorem d_Lw_waited_12 : decode b_Lw_waited 12 = .ok (.astore_n 3, 1) := by decide +kernel
theorem d_Lw_waited_13 : decode b_Lw_waited 13 = .ok (.iconst 1, 1) := by decide +kernel
theorem d_Lw_waited_14 : decode b_Lw_waited 14 = .ok (.ireturn, 1) := by decide +kernel
theorem d_Lw_waited_15 : decode b_Lw_waited 15 = .ok (.iconst 0, 1) := by decide +kernel
theorem d_Lw_waited_16 : decode b_Lw_waited 16 = .ok (.ireturn, 1) := by decide +kernel
theorem d_Pk_waited_0 : decode b_Pk_waited 0 = .ok (.aload_n 0, 1) := by decide +kernel
theorem d_Pk_waited_1 : decode b_Pk_waited 1 = .ok (.getfield 23, 3) := by decide +kernel
theorem d_Pk_waited_4 : decode b_Pk_waited 4 = .ok (.aload_n 0, 1) := by decide +kernel
theorem d_Pk_waited_5 : decode b_Pk_waited 5 = .ok (.iload_n 1, 1) := by decide +kernel
theorem d_Pk_waited_6 : decode b_Pk_waited 6 = .ok (.invokevirtual 88, 3) := by decide +kernel
theorem d_Pk_waited_9 : decode b_Pk_waited 9 = .ok (.invokevirtual 107, 3) := by decide +kernel
theorem d_Pk_waited_12 : decode b_Pk_waited 12 = .ok (.ireturn, 1) := by decide +kernel
theorem d_Lw_worst_0 : decode b_Lw_worst 0 = .ok (.aload_n 2, 1) := by decide +kernel
theorem d_Lw_worst_1 : decode b_Lw_worst 1 = .ok (.iconst 0, 1) := by decide +kernel
theorem d_Lw_worst_2 : decode b_Lw_worst 2 = .ok (.aload_n 0, 1) := by decide +kernel
theorem d_Lw_worst_3 : decode b_Lw_worst 3 = .ok (.iload_n 1, 1) := by decide +kernel
theorem d_Lw_worst_4 : decode b_Lw_worst 4 = .ok (.invokevirtual 32, 3) := by decide +kernel
theorem d_Lw_worst_7 : decode b_Lw_worst 7 = .ok (.i2l, 1) := by decide +kernel
theorem d_Lw_worst_8 : decode b_Lw_worst 8 = .ok (.lastore, 1) := by decide +kernel
theorem d_Lw_worst_9 : decode b_Lw_worst 9 = .ok (.goto 6, 3) := by decide +kernel
theorem d_Lw_worst_12 : decode b_Lw_worst 12 = .ok (.astore_n 3, 1) := by decide +kernel
theorem d_Lw_worst_13 : decode b_Lw_worst 13 = .ok (.iconst 1, 1) := by decide +kernel
theorem d_Lw_worst_14 : decode b_Lw_worst 14 = .ok (.ireturn, 1) := by decide +kernel
theorem d_Lw_worst_15 : decode b_Lw_worst 15 = .ok (.iconst 0, 1) := by decide +kernel
theorem d_Lw_worst_16 : decode b_Lw_worst 16 = .ok (.ireturn, 1) := by decide +kernel
theorem d_Pk_worst_0 : decode b_Pk_worst 0 = .ok (.aload_n 0, 1) := by decide +kernel
theorem d_Pk_worst_1 : decode b_Pk_worst 1 = .ok (.getfield 23, 3) := by decide +kernel
theorem d_Pk_worst_4 : decode b_Pk_worst 4 = .ok (.aload_n 0, 1) := by decide +kernel
theorem d_Pk_worst_5 : decode b_Pk_worst 5 = .ok (.iload_n 1, 1) := by decide +kernel
theorem d_Pk_worst_6 : decode b_Pk_worst 6 = .ok (.invokevirtual 88, 3) := by decide +kernel
theorem d_Pk_worst_9 : decode b_Pk_worst 9 = .ok (.invokevirtual 110, 3) := by decide +kernel
theorem d_Pk_worst_12 : decode b_Pk_worst 12 = .ok (.ireturn, 1) := by decide +kernel
theorem d_Cl_worstAt_0 : decode b_Cl_worstAt 0 = .ok (.aload_n 0, 1) := by decide +kernel
theorem d_Cl_worstAt_1 : decode b_Cl_worstAt 1 = .ok (.getfield 21, 3) := by decide +kernel
theorem d_Cl_worstAt_4 : decode b_Cl_worstAt 4 = .ok (.iload_n 1, 1) := by decide +kernel
theorem d_Cl_worstAt_5 : decode b_Cl_worstAt 5 = .ok (.iaload, 1) := by decide +kernel
theorem d_Cl_worstAt_6 : decode b_Cl_worstAt 6 = .ok (.ireturn, 1) := by decide +kernel
theorem d_Lw_span_0 : decode b_Lw_span 0 = .ok (.aload_n 2, 1) := by decide +kernel
theorem d_Lw_span_1 : decode b_Lw_span 1 = .ok (.iconst 0, 1) := by decide +kernel
theorem d_Lw_span_2 : decode b_Lw_span 2 = .ok (.aload_n 0, 1) := by decide +kernel
theorem d_Lw_span_3 : decode b_Lw_span 3 = .ok (.iload_n 1, 1) := by decide +kernel
theorem d_Lw_span_4 : decode b_Lw_span 4 = .ok (.invokevirtual 35, 3) := by decide +kernel
theorem d_Lw_span_7 : decode b_Lw_span 7 = .ok (.i2l, 1) := by decide +kernel
theorem d_Lw_span_8 : decode b_Lw_span 8 = .ok (.lastore, 1) := by decide +kernel
theorem d_Lw_span_9 : decode b_Lw_span 9 = .ok (.goto 6, 3) := by decide +kernel
theorem d_Lw_span_12 : decode b_Lw_span 12 = .ok (.astore_n 3, 1) := by decide +kernel
theorem d_Lw_span_13 : decode b_Lw_span 13 = .ok (.iconst 1, 1) := by decide +kernel
theorem d_Lw_span_14 : decode b_Lw_span 14 = .ok (.ireturn, 1) := by decide +kernel
theorem d_Lw_span_15 : decode b_Lw_span 15 = .ok (.iconst 0, 1) := by decide +kernel
theorem d_Lw_span_16 : decode b_Lw_span 16 = .ok (.ireturn, 1) := by decide +kernel
theorem d_Pk_span_0 : decode b_Pk_span 0 = .ok (.aload_n 0, 1) := by decide +kernel
theorem d_Pk_span_1 : decode b_Pk_span 1 = .ok (.getfield 23, 3) := by decide +kernel
theorem d_Pk_span_4 : decode b_Pk_span 4 = .ok (.aload_n 0, 1) := by decide +kernel
theorem d_Pk_span_5 : decode b_Pk_span 5 = .ok (.iload_n 1, 1) := by decide +kernel
theorem d_Pk_span_6 : decode b_Pk_span 6 = .ok (.invokevirtual 88, 3) := by decide +kernel
theorem d_Pk_span_9 : decode b_Pk_span 9 = .ok (.invokevirtual 113, 3) := by decide +kernel
theorem d_Pk_span_12 : decode b_Pk_span 12 = .ok (.ireturn, 1) := by decide +kernel
theorem d_Lw_cycle_0 : decode b_Lw_cycle 0 = .ok (.aload_n 3, 1) := by decide +kernel
theorem d_Lw_cycle_1 : decode b_Lw_cycle 1 = .ok (.iconst 0, 1) := by decide +kernel
theorem d_Lw_cycle_2 : decode b_Lw_cycle 2 = .ok (.aload_n 0, 1) := by decide +kernel
theorem d_Lw_cycle_3 : decode b_Lw_cycle 3 = .ok (.iload_n 1, 1) := by decide +kernel
theorem d_Lw_cycle_4 : decode b_Lw_cycle 4 = .ok (.iload_n 2, 1) := by decide +kernel
theorem d_Lw_cycle_5 : decode b_Lw_cycle 5 = .ok (.invokevirtual 38, 3) := by decide +kernel
theorem d_Lw_cycle_8 : decode b_Lw_cycle 8 = .ok (.i2l, 1) := by decide +kernel
theorem d_Lw_cycle_9 : decode b_Lw_cycle 9 = .ok (.lastore, 1) := by decide +kernel
theorem d_Lw_cycle_10 : decode b_Lw_cycle 10 = .ok (.goto 11, 3) := by decide +kernel
theorem d_Lw_cycle_13 : decode b_Lw_cycle 13 = .ok (.astore 4, 2) := by decide +kernel
theorem d_Lw_cycle_15 : decode b_Lw_cycle 15 = .ok (.iconst 1, 1) := by decide +kernel
theorem d_Lw_cycle_16 : decode b_Lw_cycle 16 = .ok (.ireturn, 1) := by decide +kernel
theorem d_Lw_cycle_17 : decode b_Lw_cycle 17 = .ok (.astore 4, 2) := by decide +kernel
theorem d_Lw_cycle_19 : decode b_Lw_cycle 19 = .ok (.iconst 2, 1) := by decide +kernel
theorem d_Lw_cycle_20 : decode b_Lw_cycle 20 = .ok (.ireturn, 1) := by decide +kernel
theorem d_Lw_cycle_21 : decode b_Lw_cycle 21 = .ok (.iconst 0, 1) := by decide +kernel
theorem d_Lw_cycle_22 : decode b_Lw_cycle 22 = .ok (.ireturn, 1) := by decide +kernel
theorem d_Pk_cycle_0 : decode b_Pk_cycle 0 = .ok (.iload_n 1, 1) := by decide +kernel
theorem d_Pk_cycle_1 : decode b_Pk_cycle 1 = .ok (.ifCond .eq 18, 3) := by decide +kernel
theorem d_Pk_cycle_4 : decode b_Pk_cycle 4 = .ok (.aload_n 0, 1) := by decide +kernel
theorem d_Pk_cycle_5 : decode b_Pk_cycle 5 = .ok (.getfield 40, 3) := by decide +kernel
theorem d_Pk_cycle_8 : decode b_Pk_cycle 8 = .ok (.ifCond .ne 11, 3) := by decide +kernel
theorem d_Pk_cycle_11 : decode b_Pk_cycle 11 = .ok (.new 64, 3) := by decide +kernel
theorem d_Pk_cycle_14 : decode b_Pk_cycle 14 = .ok (.dup, 1) := by decide +kernel
theorem d_Pk_cycle_15 : decode b_Pk_cycle 15 = .ok (.invokespecial 66, 3) := by decide +kernel
theorem d_Pk_cycle_18 : decode b_Pk_cycle 18 = .ok (.athrow, 1) := by decide +kernel
theorem d_Pk_cycle_19 : decode b_Pk_cycle 19 = .ok (.iload_n 1, 1) := by decide +kernel
theorem d_Pk_cycle_20 : decode b_Pk_cycle 20 = .ok (.ifCond .eq 10, 3) := by decide +kernel
theorem d_Pk_cycle_23 : decode b_Pk_cycle 23 = .ok (.aload_n 0, 1) := by decide +kernel
theorem d_Pk_cycle_24 : decode b_Pk_cycle 24 = .ok (.getfield 37, 3) := by decide +kernel
theorem d_Pk_cycle_27 : decode b_Pk_cycle 27 = .ok (.goto 7, 3) := by decide +kernel
theorem d_Pk_cycle_30 : decode b_Pk_cycle 30 = .ok (.aload_n 0, 1) := by decide +kernel
theorem d_Pk_cycle_31 : decode b_Pk_cycle 31 = .ok (.getfield 33, 3) := by decide +kernel
theorem d_Pk_cycle_34 : decode b_Pk_cycle 34 = .ok (.astore_n 3, 1) := by decide +kernel
theorem d_Pk_cycle_35 : decode b_Pk_cycle 35 = .ok (.iload_n 2, 1) := by decide +kernel
theorem d_Pk_cycle_36 : decode b_Pk_cycle 36 = .ok (.iconst (-1), 1) := by decide +kernel
theorem d_Pk_cycle_37 : decode b_Pk_cycle 37 = .ok (.if_icmp .ne 8, 3) := by decide +kernel
theorem d_Pk_cycle_40 : decode b_Pk_cycle 40 = .ok (.aload_n 3, 1) := by decide +kernel
theorem d_Pk_cycle_41 : decode b_Pk_cycle 41 = .ok (.invokevirtual 116, 3) := by decide +kernel
theorem d_Pk_cycle_44 : decode b_Pk_cycle 44 = .ok (.ireturn, 1) := by decide +kernel
theorem d_Pk_cycle_45 : decode b_Pk_cycle 45 = .ok (.iload_n 2, 1) := by decide +kernel
theorem d_Pk_cycle_46 : decode b_Pk_cycle 46 = .ok (.ifCond .lt 11, 3) := by decide +kernel
theorem d_Pk_cycle_49 : decode b_Pk_cycle 49 = .ok (.iload_n 2, 1) := by decide +kernel
theorem d_Pk_cycle_50 : decode b_Pk_cycle 50 = .ok (.aload_n 3, 1) := by decide +kernel
theorem d_Pk_cycle_51 : decode b_Pk_cycle 51 = .ok (.invokevirtual 116, 3) := by decide +kernel
theorem d_Pk_cycle_54 : decode b_Pk_cycle 54 = .ok (.if_icmp .lt 11, 3) := by decide +kernel
theorem d_Pk_cycle_57 : decode b_Pk_cycle 57 = .ok (.new 119, 3) := by decide +kernel
theorem d_Pk_cycle_60 : decode b_Pk_cycle 60 = .ok (.dup, 1) := by decide +kernel
theorem d_Pk_cycle_61 : decode b_Pk_cycle 61 = .ok (.invokespecial 121, 3) := by decide +kernel
theorem d_Pk_cycle_64 : decode b_Pk_cycle 64 = .ok (.athrow, 1) := by decide +kernel
theorem d_Pk_cycle_65 : decode b_Pk_cycle 65 = .ok (.aload_n 3, 1) := by decide +kernel
theorem d_Pk_cycle_66 : decode b_Pk_cycle 66 = .ok (.iload_n 2, 1) := by decide +kernel
theorem d_Pk_cycle_67 : decode b_Pk_cycle 67 = .ok (.invokevirtual 98, 3) := by decide +kernel
theorem d_Pk_cycle_70 : decode b_Pk_cycle 70 = .ok (.ireturn, 1) := by decide +kernel
theorem d_Cy_length_0 : decode b_Cy_length 0 = .ok (.aload_n 0, 1) := by decide +kernel
theorem d_Cy_length_1 : decode b_Cy_length 1 = .ok (.getfield 15, 3) := by decide +kernel
theorem d_Cy_length_4 : decode b_Cy_length 4 = .ok (.ireturn, 1) := by decide +kernel
theorem d_Lw_about_0 : decode b_Lw_about 0 = .ok (.aload_n 2, 1) := by decide +kernel
theorem d_Lw_about_1 : decode b_Lw_about 1 = .ok (.iconst 0, 1) := by decide +kernel
theorem d_Lw_about_2 : decode b_Lw_about 2 = .ok (.aload_n 0, 1) := by decide +kernel
theorem d_Lw_about_3 : decode b_Lw_about 3 = .ok (.iload_n 1, 1) := by decide +kernel
theorem d_Lw_about_4 : decode b_Lw_about 4 = .ok (.invokevirtual 44, 3) := by decide +kernel
theorem d_Lw_about_7 : decode b_Lw_about 7 = .ok (.i2l, 1) := by decide +kernel
theorem d_Lw_about_8 : decode b_Lw_about 8 = .ok (.lastore, 1) := by decide +kernel
theorem d_Lw_about_9 : decode b_Lw_about 9 = .ok (.goto 6, 3) := by decide +kernel
theorem d_Lw_about_12 : decode b_Lw_about 12 = .ok (.astore_n 3, 1) := by decide +kernel
theorem d_Lw_about_13 : decode b_Lw_about 13 = .ok (.iconst 1, 1) := by decide +kernel
theorem d_Lw_about_14 : decode b_Lw_about 14 = .ok (.ireturn, 1) := by decide +kernel
theorem d_Lw_about_15 : decode b_Lw_about 15 = .ok (.iconst 0, 1) := by decide +kernel
theorem d_Lw_about_16 : decode b_Lw_about 16 = .ok (.ireturn, 1) := by decide +kernel
theorem d_Pk_about_0 : decode b_Pk_about 0 = .ok (.iload_n 1, 1) := by decide +kernel
theorem d_Pk_about_1 : decode b_Pk_about 1 = .ok (.tableswitch 98 0 6 #[43, 51, 70, 78, 83, 88, 93], 43) := by decide +kernel
theorem d_Pk_about_44 : decode b_Pk_about 44 = .ok (.aload_n 0, 1) := by decide +kernel
theorem d_Pk_about_45 : decode b_Pk_about 45 = .ok (.getfield 33, 3) := by decide +kernel
theorem d_Pk_about_48 : decode b_Pk_about 48 = .ok (.invokevirtual 122, 3) := by decide +kernel
theorem d_Pk_about_51 : decode b_Pk_about 51 = .ok (.ireturn, 1) := by decide +kernel
theorem d_Pk_about_52 : decode b_Pk_about 52 = .ok (.aload_n 0, 1) := by decide +kernel
theorem d_Pk_about_53 : decode b_Pk_about 53 = .ok (.getfield 40, 3) := by decide +kernel
theorem d_Pk_about_56 : decode b_Pk_about 56 = .ok (.ifCond .eq 13, 3) := by decide +kernel
theorem d_Pk_about_59 : decode b_Pk_about 59 = .ok (.aload_n 0, 1) := by decide +kernel
theorem d_Pk_about_60 : decode b_Pk_about 60 = .ok (.getfield 37, 3) := by decide +kernel
theorem d_Pk_about_63 : decode b_Pk_about 63 = .ok (.invokevirtual 122, 3) := by decide +kernel
theorem d_Pk_about_66 : decode b_Pk_about 66 = .ok (.goto 4, 3) := by decide +kernel
theorem d_Pk_about_69 : decode b_Pk_about 69 = .ok (.iconst (-1), 1) := by decide +kernel
theorem d_Pk_about_70 : decode b_Pk_about 70 = .ok (.ireturn, 1) := by decide +kernel
theorem d_Pk_about_71 : decode b_Pk_about 71 = .ok (.aload_n 0, 1) := by decide +kernel
theorem d_Pk_about_72 : decode b_Pk_about 72 = .ok (.getfield 23, 3) := by decide +kernel
theorem d_Pk_about_75 : decode b_Pk_about 75 = .ok (.invokevirtual 67, 3) := by decide +kernel
theorem d_Pk_about_78 : decode b_Pk_about 78 = .ok (.ireturn, 1) := by decide +kernel
theorem d_Pk_about_79 : decode b_Pk_about 79 = .ok (.aload_n 0, 1) := by decide +kernel
theorem d_Pk_about_80 : decode b_Pk_about 80 = .ok (.getfield 48, 3) := by decide +kernel
theorem d_Pk_about_83 : decode b_Pk_about 83 = .ok (.ireturn, 1) := by decide +kernel
theorem d_Pk_about_84 : decode b_Pk_about 84 = .ok (.aload_n 0, 1) := by decide +kernel
theorem d_Pk_about_85 : decode b_Pk_about 85 = .ok (.getfield 44, 3) := by decide +kernel
theorem d_Pk_about_88 : decode b_Pk_about 88 = .ok (.ireturn, 1) := by decide +kernel
theorem d_Pk_about_89 : decode b_Pk_about 89 = .ok (.aload_n 0, 1) := by decide +kernel
theorem d_Pk_about_90 : decode b_Pk_about 90 = .ok (.getfield 51, 3) := by decide +kernel
theorem d_Pk_about_93 : decode b_Pk_about 93 = .ok (.ireturn, 1) := by decide +kernel
theorem d_Pk_about_94 : decode b_Pk_about 94 = .ok (.aload_n 0, 1) := by decide +kernel
theorem d_Pk_about_95 : decode b_Pk_about 95 = .ok (.getfield 54, 3) := by decide +kernel
theorem d_Pk_about_98 : decode b_Pk_about 98 = .ok (.ireturn, 1) := by decide +kernel
theorem d_Pk_about_99 : decode b_Pk_about 99 = .ok (.new 61, 3) := by decide +kernel
theorem d_Pk_about_102 : decode b_Pk_about 102 = .ok (.dup, 1) := by decide +kernel
theorem d_Pk_about_103 : decode b_Pk_about 103 = .ok (.invokespecial 63, 3) := by decide +kernel
theorem d_Pk_about_106 : decode b_Pk_about 106 = .ok (.athrow, 1) := by decide +kernel
theorem d_Cy_builder_0 : decode b_Cy_builder 0 = .ok (.aload_n 0, 1) := by decide +kernel
theorem d_Cy_builder_1 : decode b_Cy_builder 1 = .ok (.getfield 19, 3) := by decide +kernel
theorem d_Cy_builder_4 : decode b_Cy_builder 4 = .ok (.ireturn, 1) := by decide +kernel
theorem d_Lw_client_0 : decode b_Lw_client 0 = .ok (.aload_n 2, 1) := by decide +kernel
theorem d_Lw_client_1 : decode b_Lw_client 1 = .ok (.iconst 0, 1) := by decide +kernel
theorem d_Lw_client_2 : decode b_Lw_client 2 = .ok (.aload_n 0, 1) := by decide +kernel
theorem d_Lw_client_3 : decode b_Lw_client 3 = .ok (.iload_n 1, 1) := by decide +kernel
theorem d_Lw_client_4 : decode b_Lw_client 4 = .ok (.invokevirtual 47, 3) := by decide +kernel
theorem d_Lw_client_7 : decode b_Lw_client 7 = .ok (.i2l, 1) := by decide +kernel
theorem d_Lw_client_8 : decode b_Lw_client 8 = .ok (.lastore, 1) := by decide +kernel
theorem d_Lw_client_9 : decode b_Lw_client 9 = .ok (.goto 6, 3) := by decide +kernel
theorem d_Lw_client_12 : decode b_Lw_client 12 = .ok (.astore_n 3, 1) := by decide +kernel
theorem d_Lw_client_13 : decode b_Lw_client 13 = .ok (.iconst 1, 1) := by decide +kernel
theorem d_Lw_client_14 : decode b_Lw_client 14 = .ok (.ireturn, 1) := by decide +kernel
theorem d_Lw_client_15 : decode b_Lw_client 15 = .ok (.iconst 0, 1) := by decide +kernel
theorem d_Lw_client_16 : decode b_Lw_client 16 = .ok (.ireturn, 1) := by decide +kernel
theorem d_Pk_client_0 : decode b_Pk_client 0 = .ok (.iload_n 1, 1) := by decide +kernel
theorem d_Pk_client_1 : decode b_Pk_client 1 = .ok (.ifCond .lt 14, 3) := by decide +kernel
theorem d_Pk_client_4 : decode b_Pk_client 4 = .ok (.iload_n 1, 1) := by decide +kernel
theorem d_Pk_client_5 : decode b_Pk_client 5 = .ok (.aload_n 0, 1) := by decide +kernel
theorem d_Pk_client_6 : decode b_Pk_client 6 = .ok (.getfield 23, 3) := by decide +kernel
theorem d_Pk_client_9 : decode b_Pk_client 9 = .ok (.invokevirtual 67, 3) := by decide +kernel
theorem d_Pk_client_12 : decode b_Pk_client 12 = .ok (.if_icmp .lt 11, 3) := by decide +kernel
theorem d_Pk_client_15 : decode b_Pk_client 15 = .ok (.new 119, 3) := by decide +kernel
theorem d_Pk_client_18 : decode b_Pk_client 18 = .ok (.dup, 1) := by decide +kernel
theorem d_Pk_client_19 : decode b_Pk_client 19 = .ok (.invokespecial 121, 3) := by decide +kernel
theorem d_Pk_client_22 : decode b_Pk_client 22 = .ok (.athrow, 1) := by decide +kernel
theorem d_Pk_client_23 : decode b_Pk_client 23 = .ok (.aload_n 0, 1) := by decide +kernel
theorem d_Pk_client_24 : decode b_Pk_client 24 = .ok (.getfield 23, 3) := by decide +kernel
theorem d_Pk_client_27 : decode b_Pk_client 27 = .ok (.iload_n 1, 1) := by decide +kernel
theorem d_Pk_client_28 : decode b_Pk_client 28 = .ok (.invokevirtual 125, 3) := by decide +kernel
theorem d_Pk_client_31 : decode b_Pk_client 31 = .ok (.ireturn, 1) := by decide +kernel
theorem d_Lw_density_0 : decode b_Lw_density 0 = .ok (.aload_n 2, 1) := by decide +kernel
theorem d_Lw_density_1 : decode b_Lw_density 1 = .ok (.iconst 0, 1) := by decide +kernel
theorem d_Lw_density_2 : decode b_Lw_density 2 = .ok (.aload_n 0, 1) := by decide +kernel
theorem d_Lw_density_3 : decode b_Lw_density 3 = .ok (.iload_n 1, 1) := by decide +kernel
theorem d_Lw_density_4 : decode b_Lw_density 4 = .ok (.invokevirtual 50, 3) := by decide +kernel
theorem d_Lw_density_7 : decode b_Lw_density 7 = .ok (.lastore, 1) := by decide +kernel
theorem d_Lw_density_8 : decode b_Lw_density 8 = .ok (.goto 6, 3) := by decide +kernel
theorem d_Lw_density_11 : decode b_Lw_density 11 = .ok (.astore_n 3, 1) := by decide +kernel
theorem d_Lw_density_12 : decode b_Lw_density 12 = .ok (.iconst 1, 1) := by decide +kernel
theorem d_Lw_density_13 : decode b_Lw_density 13 = .ok (.ireturn, 1) := by decide +kernel
theorem d_Lw_density_14 : decode b_Lw_density 14 = .ok (.iconst 0, 1) := by decide +kernel
theorem d_Lw_density_15 : decode b_Lw_density 15 = .ok (.ireturn, 1) := by decide +kernel
theorem d_Pk_density_0 : decode b_Pk_density 0 = .ok (.iload_n 1, 1) := by decide +kernel
theorem d_Pk_density_1 : decode b_Pk_density 1 = .ok (.ifCond .eq 16, 3) := by decide +kernel
theorem d_Pk_density_4 : decode b_Pk_density 4 = .ok (.iload_n 1, 1) := by decide +kernel
theorem d_Pk_density_5 : decode b_Pk_density 5 = .ok (.iconst 1, 1) := by decide +kernel
theorem d_Pk_density_6 : decode b_Pk_density 6 = .ok (.if_icmp .eq 11, 3) := by decide +kernel
theorem d_Pk_density_9 : decode b_Pk_density 9 = .ok (.new 61, 3) := by decide +kernel
theorem d_Pk_density_12 : decode b_Pk_density 12 = .ok (.dup, 1) := by decide +kernel
theorem d_Pk_density_13 : decode b_Pk_density 13 = .ok (.invokespecial 63, 3) := by decide +kernel
theorem d_Pk_density_16 : decode b_Pk_density 16 = .ok (.athrow, 1) := by decide +kernel
theorem d_Pk_density_17 : decode b_Pk_density 17 = .ok (.lconst 0, 1) := by decide +kernel
theorem d_Pk_density_18 : decode b_Pk_density 18 = .ok (.lstore_n 2, 1) := by decide +kernel
theorem d_Pk_density_19 : decode b_Pk_density 19 = .ok (.lconst 1, 1) := by decide +kernel
theorem d_Pk_density_20 : decode b_Pk_density 20 = .ok (.lstore 4, 2) := by decide +kernel
theorem d_Pk_density_22 : decode b_Pk_density 22 = .ok (.iconst 0, 1) := by decide +kernel
theorem d_Pk_density_23 : decode b_Pk_density 23 = .ok (.istore 6, 2) := by decide +kernel
theorem d_Pk_density_25 : decode b_Pk_density 25 = .ok (.iload 6, 2) := by decide +kernel
theorem d_Pk_density_27 : decode b_Pk_density 27 = .ok (.aload_n 0, 1) := by decide +kernel
theorem d_Pk_density_28 : decode b_Pk_density 28 = .ok (.getfield 23, 3) := by decide +kernel
theorem d_Pk_density_31 : decode b_Pk_density 31 = .ok (.invokevirtual 67, 3) := by decide +kernel
theorem d_Pk_density_34 : decode b_Pk_density 34 = .ok (.if_icmp .ge 60, 3) := by decide +kernel
theorem d_Pk_density_37 : decode b_Pk_density 37 = .ok (.lload_n 2, 1) := by decide +kernel
theorem d_Pk_density_38 : decode b_Pk_density 38 = .ok (.aload_n 0, 1) := by decide +kernel
theorem d_Pk_density_39 : decode b_Pk_density 39 = .ok (.getfield 23, 3) := by decide +kernel
theorem d_Pk_density_42 : decode b_Pk_density 42 = .ok (.iload 6, 2) := by decide +kernel
theorem d_Pk_density_44 : decode b_Pk_density 44 = .ok (.invokevirtual 113, 3) := by decide +kernel
theorem d_Pk_density_47 : decode b_Pk_density 47 = .ok (.i2l, 1) := by decide +kernel
theorem d_Pk_density_48 : decode b_Pk_density 48 = .ok (.lmul, 1) := by decide +kernel
theorem d_Pk_density_49 : decode b_Pk_density 49 = .ok (.lload 4, 2) := by decide +kernel
theorem d_Pk_density_51 : decode b_Pk_density 51 = .ok (.ladd, 1) := by decide +kernel
theorem d_Pk_density_52 : decode b_Pk_density 52 = .ok (.lstore_n 2, 1) := by decide +kernel
theorem d_Pk_density_53 : decode b_Pk_density 53 = .ok (.lload 4, 2) := by decide +kernel
theorem d_Pk_density_55 : decode b_Pk_density 55 = .ok (.aload_n 0, 1) := by decide +kernel
theorem d_Pk_density_56 : decode b_Pk_density 56 = .ok (.getfield 23, 3) := by decide +kernel
theorem d_Pk_density_59 : decode b_Pk_density 59 = .ok (.iload 6, 2) := by decide +kernel
theorem d_Pk_density_61 : decode b_Pk_density 61 = .ok (.invokevirtual 113, 3) := by decide +kernel
theorem d_Pk_density_64 : decode b_Pk_density 64 = .ok (.i2l, 1) := by decide +kernel
theorem d_Pk_density_65 : decode b_Pk_density 65 = .ok (.lmul, 1) := by decide +kernel
theorem d_Pk_density_66 : decode b_Pk_density 66 = .ok (.lstore 4, 2) := by decide +kernel
theorem d_Pk_density_68 : decode b_Pk_density 68 = .ok (.lload_n 2, 1) := by decide +kernel
theorem d_Pk_density_69 : decode b_Pk_density 69 = .ok (.lload 4, 2) := by decide +kernel
theorem d_Pk_density_71 : decode b_Pk_density 71 = .ok (.invokestatic 126, 3) := by decide +kernel
theorem d_Pk_density_74 : decode b_Pk_density 74 = .ok (.lstore 7, 2) := by decide +kernel
theorem d_Pk_density_76 : decode b_Pk_density 76 = .ok (.lload_n 2, 1) := by decide +kernel
theorem d_Pk_density_77 : decode b_Pk_density 77 = .ok (.lload 7, 2) := by decide +kernel
theorem d_Pk_density_79 : decode b_Pk_density 79 = .ok (.ldiv, 1) := by decide +kernel
theorem d_Pk_density_80 : decode b_Pk_density 80 = .ok (.lstore_n 2, 1) := by decide +kernel
theorem d_Pk_density_81 : decode b_Pk_density 81 = .ok (.lload 4, 2) := by decide +kernel
theorem d_Pk_density_83 : decode b_Pk_density 83 = .ok (.lload 7, 2) := by decide +kernel
theorem d_Pk_density_85 : decode b_Pk_density 85 = .ok (.ldiv, 1) := by decide +kernel
theorem d_Pk_density_86 : decode b_Pk_density 86 = .ok (.lstore 4, 2) := by decide +kernel
theorem d_Pk_density_88 : decode b_Pk_density 88 = .ok (.iinc 6 1, 3) := by decide +kernel
theorem d_Pk_density_91 : decode b_Pk_density 91 = .ok (.goto (-66), 3) := by decide +kernel
theorem d_Pk_density_94 : decode b_Pk_density 94 = .ok (.iload_n 1, 1) := by decide +kernel
theorem d_Pk_density_95 : decode b_Pk_density 95 = .ok (.ifCond .ne 7, 3) := by decide +kernel
theorem d_Pk_density_98 : decode b_Pk_density 98 = .ok (.lload_n 2, 1) := by decide +kernel
theorem d_Pk_density_99 : decode b_Pk_density 99 = .ok (.goto 5, 3) := by decide +kernel
theorem d_Pk_density_102 : decode b_Pk_density 102 = .ok (.lload 4, 2) := by decide +kernel
theorem d_Pk_density_104 : decode b_Pk_density 104 = .ok (.lreturn, 1) := by decide +kernel
theorem d_Pk_commonDivisor_0 : decode b_Pk_commonDivisor 0 = .ok (.lload_n 0, 1) := by decide +kernel
theorem d_Pk_commonDivisor_1 : decode b_Pk_commonDivisor 1 = .ok (.lstore 4, 2) := by decide +kernel
theorem d_Pk_commonDivisor_3 : decode b_Pk_commonDivisor 3 = .ok (.lload_n 2, 1) := by decide +kernel
theorem d_Pk_commonDivisor_4 : decode b_Pk_commonDivisor 4 = .ok (.lstore 6, 2) := by decide +kernel
theorem d_Pk_commonDivisor_6 : decode b_Pk_commonDivisor 6 = .ok (.iconst 0, 1) := by decide +kernel
theorem d_Pk_commonDivisor_7 : decode b_Pk_commonDivisor 7 = .ok (.istore 8, 2) := by decide +kernel
theorem d_Pk_commonDivisor_9 : decode b_Pk_commonDivisor 9 = .ok (.iload 8, 2) := by decide +kernel
theorem d_Pk_commonDivisor_11 : decode b_Pk_commonDivisor 11 = .ok (.bipush 100, 2) := by decide +kernel
theorem d_Pk_commonDivisor_13 : decode b_Pk_commonDivisor 13 = .ok (.if_icmp .ge 31, 3) := by decide +kernel
theorem d_Pk_commonDivisor_16 : decode b_Pk_commonDivisor 16 = .ok (.lload 6, 2) := by decide +kernel
theorem d_Pk_commonDivisor_18 : decode b_Pk_commonDivisor 18 = .ok (.lconst 0, 1) := by decide +kernel
theorem d_Pk_commonDivisor_19 : decode b_Pk_commonDivisor 19 = .ok (.lcmp, 1) := by decide +kernel
theorem d_Pk_commonDivisor_20 : decode b_Pk_commonDivisor 20 = .ok (.ifCond .eq 24, 3) := by decide +kernel
theorem d_Pk_commonDivisor_23 : decode b_Pk_commonDivisor 23 = .ok (.lload 4, 2) := by decide +kernel
theorem d_Pk_commonDivisor_25 : decode b_Pk_commonDivisor 25 = .ok (.lload 6, 2) := by decide +kernel
theorem d_Pk_commonDivisor_27 : decode b_Pk_commonDivisor 27 = .ok (.lrem, 1) := by decide +kernel
theorem d_Pk_commonDivisor_28 : decode b_Pk_commonDivisor 28 = .ok (.lstore 9, 2) := by decide +kernel
theorem d_Pk_commonDivisor_30 : decode b_Pk_commonDivisor 30 = .ok (.lload 6, 2) := by decide +kernel
theorem d_Pk_commonDivisor_32 : decode b_Pk_commonDivisor 32 = .ok (.lstore 4, 2) := by decide +kernel
theorem d_Pk_commonDivisor_34 : decode b_Pk_commonDivisor 34 = .ok (.lload 9, 2) := by decide +kernel
theorem d_Pk_commonDivisor_36 : decode b_Pk_commonDivisor 36 = .ok (.lstore 6, 2) := by decide +kernel
theorem d_Pk_commonDivisor_38 : decode b_Pk_commonDivisor 38 = .ok (.iinc 8 1, 3) := by decide +kernel
theorem d_Pk_commonDivisor_41 : decode b_Pk_commonDivisor 41 = .ok (.goto (-32), 3) := by decide +kernel
theorem d_Pk_commonDivisor_44 : decode b_Pk_commonDivisor 44 = .ok (.lload 4, 2) := by decide +kernel
theorem d_Pk_commonDivisor_46 : decode b_Pk_commonDivisor 46 = .ok (.lconst 0, 1) := by decide +kernel
theorem d_Pk_commonDivisor_47 : decode b_Pk_commonDivisor 47 = .ok (.lcmp, 1) := by decide +kernel
theorem d_Pk_commonDivisor_48 : decode b_Pk_commonDivisor 48 = .ok (.ifCond .le 8, 3) := by decide +kernel
theorem d_Pk_commonDivisor_51 : decode b_Pk_commonDivisor 51 = .ok (.lload 4, 2) := by decide +kernel
theorem d_Pk_commonDivisor_53 : decode b_Pk_commonDivisor 53 = .ok (.goto 4, 3) := by decide +kernel
theorem d_Pk_commonDivisor_56 : decode b_Pk_commonDivisor 56 = .ok (.lconst 1, 1) := by decide +kernel
theorem d_Pk_commonDivisor_57 : decode b_Pk_commonDivisor 57 = .ok (.lreturn, 1) := by decide +kernel
theorem d_Md_init_0 : decode b_Md_init 0 = .ok (.aload_n 0, 1) := by decide +kernel
theorem d_Md_init_1 : decode b_Md_init 1 = .ok (.invokespecial 1, 3) := by decide +kernel
theorem d_Md_init_4 : decode b_Md_init 4 = .ok (.aload_n 0, 1) := by decide +kernel
theorem d_Md_init_5 : decode b_Md_init 5 = .ok (.bipush 10, 2) := by decide +kernel
theorem d_Md_init_7 : decode b_Md_init 7 = .ok (.newarray .int, 2) := by decide +kernel
theorem d_Md_init_9 : decode b_Md_init 9 = .ok (.putfield 7, 3) := by decide +kernel
theorem d_Md_init_12 : decode b_Md_init 12 = .ok (.aload_n 0, 1) := by decide +kernel
theorem d_Md_init_13 : decode b_Md_init 13 = .ok (.bipush 10, 2) := by decide +kernel
theorem d_Md_init_15 : decode b_Md_init 15 = .ok (.newarray .int, 2) := by decide +kernel
theorem d_Md_init_17 : decode b_Md_init 17 = .ok (.putfield 13, 3) := by decide +kernel
theorem d_Md_init_20 : decode b_Md_init 20 = .ok (.aload_n 0, 1) := by decide +kernel
theorem d_Md_init_21 : decode b_Md_init 21 = .ok (.bipush 10, 2) := by decide +kernel
theorem d_Md_init_23 : decode b_Md_init 23 = .ok (.newarray .int, 2) := by decide +kernel
theorem d_Md_init_25 : decode b_Md_init 25 = .ok (.putfield 16, 3) := by decide +kernel
theorem d_Md_init_28 : decode b_Md_init 28 = .ok (.aload_n 0, 1) := by decide +kernel
theorem d_Md_init_29 : decode b_Md_init 29 = .ok (.bipush 10, 2) := by decide +kernel
theorem d_Md_init_31 : decode b_Md_init 31 = .ok (.newarray .int, 2) := by decide +kernel
theorem d_Md_init_33 : decode b_Md_init 33 = .ok (.putfield 19, 3) := by decide +kernel
theorem d_Md_init_36 : decode b_Md_init 36 = .ok (.aload_n 0, 1) := by decide +kernel
theorem d_Md_init_37 : decode b_Md_init 37 = .ok (.iconst 1, 1) := by decide +kernel
theorem d_Md_init_38 : decode b_Md_init 38 = .ok (.putfield 22, 3) := by decide +kernel
theorem d_Md_init_41 : decode b_Md_init 41 = .ok (.aload_n 0, 1) := by decide +kernel
theorem d_Md_init_42 : decode b_Md_init 42 = .ok (.sipush 1600, 3) := by decide +kernel
theorem d_Md_init_45 : decode b_Md_init 45 = .ok (.newarray .int, 2) := by decide +kernel
theorem d_Md_init_47 : decode b_Md_init 47 = .ok (.putfield 26, 3) := by decide +kernel
theorem d_Md_init_50 : decode b_Md_init 50 = .ok (.aload_n 0, 1) := by decide +kernel
theorem d_Md_init_51 : decode b_Md_init 51 = .ok (.iconst (-1), 1) := by decide +kernel
theorem d_Md_init_52 : decode b_Md_init 52 = .ok (.putfield 29, 3) := by decide +kernel
theorem d_Md_init_55 : decode b_Md_init 55 = .ok (.aload_n 0, 1) := by decide +kernel
theorem d_Md_init_56 : decode b_Md_init 56 = .ok (.bipush 10, 2) := by decide +kernel
theorem d_Md_init_58 : decode b_Md_init 58 = .ok (.newarray .int, 2) := by decide +kernel
theorem d_Md_init_60 : decode b_Md_init 60 = .ok (.putfield 32, 3) := by decide +kernel
theorem d_Md_init_63 : decode b_Md_init 63 = .ok (.aload_n 0, 1) := by decide +kernel
theorem d_Md_init_64 : decode b_Md_init 64 = .ok (.bipush 10, 2) := by decide +kernel
theorem d_Md_init_66 : decode b_Md_init 66 = .ok (.newarray .int, 2) := by decide +kernel
theorem d_Md_init_68 : decode b_Md_init 68 = .ok (.putfield 35, 3) := by decide +kernel
theorem d_Md_init_71 : decode b_Md_init 71 = .ok (.aload_n 0, 1) := by decide +kernel
theorem d_Md_init_72 : decode b_Md_init 72 = .ok (.sipush 1600, 3) := by decide +kernel
theorem d_Md_init_75 : decode b_Md_init 75 = .ok (.newarray .int, 2) := by decide +kernel
theorem d_Md_init_77 : decode b_Md_init 77 = .ok (.putfield 38, 3) := by decide +kernel
theorem d_Md_init_80 : decode b_Md_init 80 = .ok (.aload_n 0, 1) := by decide +kernel
theorem d_Md_init_81 : decode b_Md_init 81 = .ok (.bipush 10, 2) := by decide +kernel
theorem d_Md_init_83 : decode b_Md_init 83 = .ok (.newarray .int, 2) := by decide +kernel
theorem d_Md_init_85 : decode b_Md_init 85 = .ok (.putfield 41, 3) := by decide +kernel
theorem d_Md_init_88 : decode b_Md_init 88 = .ok (.aload_n 0, 1) := by decide +kernel
theorem d_Md_init_89 : decode b_Md_init 89 = .ok (.bipush 10, 2) := by decide +kernel
theorem d_Md_init_91 : decode b_Md_init 91 = .ok (.newarray .int, 2) := by decide +kernel
theorem d_Md_init_93 : decode b_Md_init 93 = .ok (.putfield 44, 3) := by decide +kernel
theorem d_Md_init_96 : decode b_Md_init 96 = .ok (.aload_n 0, 1) := by decide +kernel
theorem d_Md_init_97 : decode b_Md_init 97 = .ok (.sipush 1500, 3) := by decide +kernel
theorem d_Md_init_100 : decode b_Md_init 100 = .ok (.newarray .boolean, 2) := by decide +kernel
theorem d_Md_init_102 : decode b_Md_init 102 = .ok (.putfield 47, 3) := by decide +kernel
theorem d_Md_init_105 : decode b_Md_init 105 = .ok (.aload_n 0, 1) := by decide +kernel
theorem d_Md_init_106 : decode b_Md_init 106 = .ok (.iconst 4, 1) := by decide +kernel
theorem d_Md_init_107 : decode b_Md_init 107 = .ok (.newarray .int, 2) := by decide +kernel
theorem d_Md_init_109 : decode b_Md_init 109 = .ok (.putfield 51, 3) := by decide +kernel
theorem d_Md_init_112 : decode b_Md_init 112 = .ok (.aload_n 0, 1) := by decide +kernel
theorem d_Md_init_113 : decode b_Md_init 113 = .ok (.sipush 1500, 3) := by decide +kernel
theorem d_Md_init_116 : decode b_Md_init 116 = .ok (.newarray .int, 2) := by decide +kernel
theorem d_Md_init_118 : decode b_Md_init 118 = .ok (.putfield 54, 3) := by decide +kernel
theorem d_Md_init_121 : decode b_Md_init 121 = .ok (.return_, 1) := by decide +kernel
theorem d_Md_thrown_0 : decode b_Md_thrown 0 = .ok (.aload_n 0, 1) := by decide +kernel
theorem d_Md_thrown_1 : decode b_Md_thrown 1 = .ok (.getfield 57, 3) := by decide +kernel
theorem d_Md_thrown_4 : decode b_Md_thrown 4 = .ok (.ireturn, 1) := by decide +kernel
theorem d_Md_ask_0 : decode b_Md_ask 0 = .ok (.iload_n 1, 1) := by decide +kernel
theorem d_Md_ask_1 : decode b_Md_ask 1 = .ok (.iconst 1, 1) := by decide +kernel
theorem d_Md_ask_2 : decode b_Md_ask 2 = .ok (.sipush 999, 3) := by decide +kernel
theorem d_Md_ask_5 : decode b_Md_ask 5 = .ok (.invokestatic 111, 3) := by decide +kernel
theorem d_Md_ask_8 : decode b_Md_ask 8 = .ok (.ifCond .eq 25, 3) := by decide +kernel
theorem d_Md_ask_11 : decode b_Md_ask 11 = .ok (.iload_n 2, 1) := by decide +kernel
theorem d_Md_ask_12 : decode b_Md_ask 12 = .ok (.iconst 1, 1) := by decide +kernel
theorem d_Md_ask_13 : decode b_Md_ask 13 = .ok (.bipush 40, 2) := by decide +kernel
theorem d_Md_ask_15 : decode b_Md_ask 15 = .ok (.invokestatic 111, 3) := by decide +kernel
theorem d_Md_ask_18 : decode b_Md_ask 18 = .ok (.ifCond .eq 15, 3) := by decide +kernel
theorem d_Md_ask_21 : decode b_Md_ask 21 = .ok (.aload_n 0, 1) := by decide +kernel
theorem d_Md_ask_22 : decode b_Md_ask 22 = .ok (.iload_n 1, 1) := by decide +kernel
theorem d_Md_ask_23 : decode b_Md_ask 23 = .ok (.invokevirtual 115, 3) := by decide +kernel
theorem d_Md_ask_26 : decode b_Md_ask 26 = .ok (.ifCond .ge 7, 3) := by decide +kernel
theorem d_Md_ask_29 : decode b_Md_ask 29 = .ok (.iconst 1, 1) := by decide +kernel
theorem d_Md_ask_30 : decode b_Md_ask 30 = .ok (.goto 4, 3) := by decide +kernel
theorem d_Md_ask_33 : decode b_Md_ask 33 = .ok (.iconst 0, 1) := by decide +kernel
theorem d_Md_ask_34 : decode b_Md_ask 34 = .ok (.istore_n 3, 1) := by decide +kernel
theorem d_Md_ask_35 : decode b_Md_ask 35 = .ok (.aload_n 0, 1) := by decide +kernel
theorem d_Md_ask_36 : decode b_Md_ask 36 = .ok (.iload_n 3, 1) := by decide +kernel
theorem d_Md_ask_37 : decode b_Md_ask 37 = .ok (.ifCond .ne 7, 3) := by decide +kernel
theorem d_Md_ask_40 : decode b_Md_ask 40 = .ok (.iconst 1, 1) := by decide +kernel
theorem d_Md_ask_41 : decode b_Md_ask 41 = .ok (.goto 4, 3) := by decide +kernel
theorem d_Md_ask_44 : decode b_Md_ask 44 = .ok (.iconst 0, 1) := by decide +kernel
theorem d_Md_ask_45 : decode b_Md_ask 45 = .ok (.aload_n 0, 1) := by decide +kernel
theorem d_Md_ask_46 : decode b_Md_ask 46 = .ok (.getfield 29, 3) := by decide +kernel
theorem d_Md_ask_49 : decode b_Md_ask 49 = .ok (.ifCond .le 7, 3) := by decide +kernel
theorem d_Md_ask_52 : decode b_Md_ask 52 = .ok (.iconst 1, 1) := by decide +kernel
theorem d_Md_ask_53 : decode b_Md_ask 53 = .ok (.goto 4, 3) := by decide +kernel
theorem d_Md_ask_56 : decode b_Md_ask 56 = .ok (.iconst 0, 1) := by decide +kernel
theorem d_Md_ask_57 : decode b_Md_ask 57 = .ok (.aload_n 0, 1) := by decide +kernel
