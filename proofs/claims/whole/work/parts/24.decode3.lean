theorem d_T_die_0 : decode b_T_die 0 = .ok (.aload_n 0, 1) := by decide +kernel
theorem d_T_die_1 : decode b_T_die 1 = .ok (.getfield 79, 3) := by decide +kernel
theorem d_T_die_4 : decode b_T_die 4 = .ok (.iconst 1, 1) := by decide +kernel
theorem d_T_die_5 : decode b_T_die 5 = .ok (.isub, 1) := by decide +kernel
theorem d_T_die_6 : decode b_T_die 6 = .ok (.istore_n 1, 1) := by decide +kernel
theorem d_T_die_7 : decode b_T_die 7 = .ok (.aload_n 0, 1) := by decide +kernel
theorem d_T_die_8 : decode b_T_die 8 = .ok (.aload_n 0, 1) := by decide +kernel
theorem d_T_die_9 : decode b_T_die 9 = .ok (.getfield 22, 3) := by decide +kernel
theorem d_T_die_12 : decode b_T_die 12 = .ok (.iload_n 1, 1) := by decide +kernel
theorem d_T_die_13 : decode b_T_die 13 = .ok (.iaload, 1) := by decide +kernel
theorem d_T_die_14 : decode b_T_die 14 = .ok (.putfield 39, 3) := by decide +kernel
theorem d_T_die_17 : decode b_T_die 17 = .ok (.aload_n 0, 1) := by decide +kernel
theorem d_T_die_18 : decode b_T_die 18 = .ok (.getfield 25, 3) := by decide +kernel
theorem d_T_die_21 : decode b_T_die 21 = .ok (.iload_n 1, 1) := by decide +kernel
theorem d_T_die_22 : decode b_T_die 22 = .ok (.iconst 1, 1) := by decide +kernel
theorem d_T_die_23 : decode b_T_die 23 = .ok (.bastore, 1) := by decide +kernel
theorem d_T_die_24 : decode b_T_die 24 = .ok (.return_, 1) := by decide +kernel
theorem d_M_init_0 : decode b_M_init 0 = .ok (.aload_n 0, 1) := by decide +kernel
theorem d_M_init_1 : decode b_M_init 1 = .ok (.invokespecial 1, 3) := by decide +kernel
theorem d_M_init_4 : decode b_M_init 4 = .ok (.aload_n 0, 1) := by decide +kernel
theorem d_M_init_5 : decode b_M_init 5 = .ok (.sipush 400, 3) := by decide +kernel
theorem d_M_init_8 : decode b_M_init 8 = .ok (.newarray .int, 2) := by decide +kernel
theorem d_M_init_10 : decode b_M_init 10 = .ok (.putfield 9, 3) := by decide +kernel
theorem d_M_init_13 : decode b_M_init 13 = .ok (.aload_n 0, 1) := by decide +kernel
theorem d_M_init_14 : decode b_M_init 14 = .ok (.bipush 41, 2) := by decide +kernel
theorem d_M_init_16 : decode b_M_init 16 = .ok (.newarray .int, 2) := by decide +kernel
theorem d_M_init_18 : decode b_M_init 18 = .ok (.putfield 13, 3) := by decide +kernel
theorem d_M_init_21 : decode b_M_init 21 = .ok (.aload_n 0, 1) := by decide +kernel
theorem d_M_init_22 : decode b_M_init 22 = .ok (.bipush 41, 2) := by decide +kernel
theorem d_M_init_24 : decode b_M_init 24 = .ok (.newarray .int, 2) := by decide +kernel
theorem d_M_init_26 : decode b_M_init 26 = .ok (.putfield 16, 3) := by decide +kernel
theorem d_M_init_29 : decode b_M_init 29 = .ok (.aload_n 0, 1) := by decide +kernel
theorem d_M_init_30 : decode b_M_init 30 = .ok (.bipush 41, 2) := by decide +kernel
theorem d_M_init_32 : decode b_M_init 32 = .ok (.newarray .int, 2) := by decide +kernel
theorem d_M_init_34 : decode b_M_init 34 = .ok (.putfield 19, 3) := by decide +kernel
theorem d_M_init_37 : decode b_M_init 37 = .ok (.aload_n 0, 1) := by decide +kernel
theorem d_M_init_38 : decode b_M_init 38 = .ok (.bipush 41, 2) := by decide +kernel
theorem d_M_init_40 : decode b_M_init 40 = .ok (.newarray .int, 2) := by decide +kernel
theorem d_M_init_42 : decode b_M_init 42 = .ok (.putfield 22, 3) := by decide +kernel
theorem d_M_init_45 : decode b_M_init 45 = .ok (.aload_n 0, 1) := by decide +kernel
theorem d_M_init_46 : decode b_M_init 46 = .ok (.bipush 41, 2) := by decide +kernel
theorem d_M_init_48 : decode b_M_init 48 = .ok (.newarray .boolean, 2) := by decide +kernel
theorem d_M_init_50 : decode b_M_init 50 = .ok (.putfield 25, 3) := by decide +kernel
theorem d_M_init_53 : decode b_M_init 53 = .ok (.aload_n 0, 1) := by decide +kernel
theorem d_M_init_54 : decode b_M_init 54 = .ok (.sipush 400, 3) := by decide +kernel
theorem d_M_init_57 : decode b_M_init 57 = .ok (.newarray .int, 2) := by decide +kernel
theorem d_M_init_59 : decode b_M_init 59 = .ok (.putfield 29, 3) := by decide +kernel
theorem d_M_init_62 : decode b_M_init 62 = .ok (.aload_n 0, 1) := by decide +kernel
theorem d_M_init_63 : decode b_M_init 63 = .ok (.iconst 0, 1) := by decide +kernel
theorem d_M_init_64 : decode b_M_init 64 = .ok (.invokevirtual 32, 3) := by decide +kernel
theorem d_M_init_67 : decode b_M_init 67 = .ok (.return_, 1) := by decide +kernel
theorem d_M_thrown_0 : decode b_M_thrown 0 = .ok (.aload_n 0, 1) := by decide +kernel
theorem d_M_thrown_1 : decode b_M_thrown 1 = .ok (.getfield 36, 3) := by decide +kernel
theorem d_M_thrown_4 : decode b_M_thrown 4 = .ok (.ireturn, 1) := by decide +kernel
theorem d_M_start_0 : decode b_M_start 0 = .ok (.aload_n 0, 1) := by decide +kernel
theorem d_M_start_1 : decode b_M_start 1 = .ok (.iconst 0, 1) := by decide +kernel
theorem d_M_start_2 : decode b_M_start 2 = .ok (.putfield 40, 3) := by decide +kernel
theorem d_M_start_5 : decode b_M_start 5 = .ok (.aload_n 0, 1) := by decide +kernel
theorem d_M_start_6 : decode b_M_start 6 = .ok (.iconst 1, 1) := by decide +kernel
theorem d_M_start_7 : decode b_M_start 7 = .ok (.putfield 43, 3) := by decide +kernel
theorem d_M_start_10 : decode b_M_start 10 = .ok (.aload_n 0, 1) := by decide +kernel
theorem d_M_start_11 : decode b_M_start 11 = .ok (.getfield 13, 3) := by decide +kernel
theorem d_M_start_14 : decode b_M_start 14 = .ok (.iconst 0, 1) := by decide +kernel
theorem d_M_start_15 : decode b_M_start 15 = .ok (.iconst 0, 1) := by decide +kernel
theorem d_M_start_16 : decode b_M_start 16 = .ok (.iastore, 1) := by decide +kernel
theorem d_M_start_17 : decode b_M_start 17 = .ok (.aload_n 0, 1) := by decide +kernel
theorem d_M_start_18 : decode b_M_start 18 = .ok (.getfield 16, 3) := by decide +kernel
theorem d_M_start_21 : decode b_M_start 21 = .ok (.iconst 0, 1) := by decide +kernel
theorem d_M_start_22 : decode b_M_start 22 = .ok (.iconst 0, 1) := by decide +kernel
theorem d_M_start_23 : decode b_M_start 23 = .ok (.iastore, 1) := by decide +kernel
theorem d_M_start_24 : decode b_M_start 24 = .ok (.aload_n 0, 1) := by decide +kernel
theorem d_M_start_25 : decode b_M_start 25 = .ok (.getfield 19, 3) := by decide +kernel
theorem d_M_start_28 : decode b_M_start 28 = .ok (.iconst 0, 1) := by decide +kernel
theorem d_M_start_29 : decode b_M_start 29 = .ok (.iload_n 1, 1) := by decide +kernel
theorem d_M_start_30 : decode b_M_start 30 = .ok (.iastore, 1) := by decide +kernel
theorem d_M_start_31 : decode b_M_start 31 = .ok (.aload_n 0, 1) := by decide +kernel
theorem d_M_start_32 : decode b_M_start 32 = .ok (.getfield 22, 3) := by decide +kernel
theorem d_M_start_35 : decode b_M_start 35 = .ok (.iconst 0, 1) := by decide +kernel
theorem d_M_start_36 : decode b_M_start 36 = .ok (.iconst 0, 1) := by decide +kernel
theorem d_M_start_37 : decode b_M_start 37 = .ok (.iastore, 1) := by decide +kernel
theorem d_M_start_38 : decode b_M_start 38 = .ok (.aload_n 0, 1) := by decide +kernel
theorem d_M_start_39 : decode b_M_start 39 = .ok (.getfield 25, 3) := by decide +kernel
theorem d_M_start_42 : decode b_M_start 42 = .ok (.iconst 0, 1) := by decide +kernel
theorem d_M_start_43 : decode b_M_start 43 = .ok (.iconst 0, 1) := by decide +kernel
theorem d_M_start_44 : decode b_M_start 44 = .ok (.bastore, 1) := by decide +kernel
theorem d_M_start_45 : decode b_M_start 45 = .ok (.aload_n 0, 1) := by decide +kernel
theorem d_M_start_46 : decode b_M_start 46 = .ok (.iconst 0, 1) := by decide +kernel
theorem d_M_start_47 : decode b_M_start 47 = .ok (.putfield 46, 3) := by decide +kernel
theorem d_M_start_50 : decode b_M_start 50 = .ok (.aload_n 0, 1) := by decide +kernel
theorem d_M_start_51 : decode b_M_start 51 = .ok (.iconst 0, 1) := by decide +kernel
theorem d_M_start_52 : decode b_M_start 52 = .ok (.putfield 49, 3) := by decide +kernel
theorem d_M_start_55 : decode b_M_start 55 = .ok (.return_, 1) := by decide +kernel
theorem d_M_isList_0 : decode b_M_isList 0 = .ok (.iload_n 0, 1) := by decide +kernel
theorem d_M_isList_1 : decode b_M_isList 1 = .ok (.ifCond .lt 10, 3) := by decide +kernel
theorem d_M_isList_4 : decode b_M_isList 4 = .ok (.iload_n 0, 1) := by decide +kernel
theorem d_M_isList_5 : decode b_M_isList 5 = .ok (.sipush 15625, 3) := by decide +kernel
theorem d_M_isList_8 : decode b_M_isList 8 = .ok (.if_icmp .lt 5, 3) := by decide +kernel
theorem d_M_isList_11 : decode b_M_isList 11 = .ok (.iconst 0, 1) := by decide +kernel
theorem d_M_isList_12 : decode b_M_isList 12 = .ok (.ireturn, 1) := by decide +kernel
theorem d_M_isList_13 : decode b_M_isList 13 = .ok (.iload_n 0, 1) := by decide +kernel
theorem d_M_isList_14 : decode b_M_isList 14 = .ok (.istore_n 1, 1) := by decide +kernel
theorem d_M_isList_15 : decode b_M_isList 15 = .ok (.iload_n 1, 1) := by decide +kernel
theorem d_M_isList_16 : decode b_M_isList 16 = .ok (.ifCond .le 18, 3) := by decide +kernel
theorem d_M_isList_19 : decode b_M_isList 19 = .ok (.iload_n 1, 1) := by decide +kernel
theorem d_M_isList_20 : decode b_M_isList 20 = .ok (.iconst 5, 1) := by decide +kernel
theorem d_M_isList_21 : decode b_M_isList 21 = .ok (.irem, 1) := by decide +kernel
theorem d_M_isList_22 : decode b_M_isList 22 = .ok (.ifCond .ne 5, 3) := by decide +kernel
theorem d_M_isList_25 : decode b_M_isList 25 = .ok (.iconst 0, 1) := by decide +kernel
theorem d_M_isList_26 : decode b_M_isList 26 = .ok (.ireturn, 1) := by decide +kernel
theorem d_M_isList_27 : decode b_M_isList 27 = .ok (.iload_n 1, 1) := by decide +kernel
theorem d_M_isList_28 : decode b_M_isList 28 = .ok (.iconst 5, 1) := by decide +kernel
theorem d_M_isList_29 : decode b_M_isList 29 = .ok (.idiv, 1) := by decide +kernel
theorem d_M_isList_30 : decode b_M_isList 30 = .ok (.istore_n 1, 1) := by decide +kernel
theorem d_M_isList_31 : decode b_M_isList 31 = .ok (.goto (-16), 3) := by decide +kernel
theorem d_M_isList_34 : decode b_M_isList 34 = .ok (.iconst 1, 1) := by decide +kernel
theorem d_M_isList_35 : decode b_M_isList 35 = .ok (.ireturn, 1) := by decide +kernel
theorem d_M_length_0 : decode b_M_length 0 = .ok (.iconst 0, 1) := by decide +kernel
theorem d_M_length_1 : decode b_M_length 1 = .ok (.istore_n 1, 1) := by decide +kernel
theorem d_M_length_2 : decode b_M_length 2 = .ok (.iload_n 0, 1) := by decide +kernel
theorem d_M_length_3 : decode b_M_length 3 = .ok (.istore_n 2, 1) := by decide +kernel
theorem d_M_length_4 : decode b_M_length 4 = .ok (.iload_n 2, 1) := by decide +kernel
theorem d_M_length_5 : decode b_M_length 5 = .ok (.ifCond .le 13, 3) := by decide +kernel
theorem d_M_length_8 : decode b_M_length 8 = .ok (.iinc 1 1, 3) := by decide +kernel
theorem d_M_length_11 : decode b_M_length 11 = .ok (.iload_n 2, 1) := by decide +kernel
theorem d_M_length_12 : decode b_M_length 12 = .ok (.iconst 5, 1) := by decide +kernel
theorem d_M_length_13 : decode b_M_length 13 = .ok (.idiv, 1) := by decide +kernel
theorem d_M_length_14 : decode b_M_length 14 = .ok (.istore_n 2, 1) := by decide +kernel
theorem d_M_length_15 : decode b_M_length 15 = .ok (.goto (-11), 3) := by decide +kernel
theorem d_M_length_18 : decode b_M_length 18 = .ok (.iload_n 1, 1) := by decide +kernel
theorem d_M_length_19 : decode b_M_length 19 = .ok (.ireturn, 1) := by decide +kernel
theorem d_M_keep_0 : decode b_M_keep 0 = .ok (.aload_n 0, 1) := by decide +kernel
theorem d_M_keep_1 : decode b_M_keep 1 = .ok (.aload_n 0, 1) := by decide +kernel
theorem d_M_keep_2 : decode b_M_keep 2 = .ok (.getfield 40, 3) := by decide +kernel
theorem d_M_keep_5 : decode b_M_keep 5 = .ok (.putfield 52, 3) := by decide +kernel
theorem d_M_keep_8 : decode b_M_keep 8 = .ok (.iconst 0, 1) := by decide +kernel
theorem d_M_keep_9 : decode b_M_keep 9 = .ok (.istore_n 1, 1) := by decide +kernel
theorem d_M_keep_10 : decode b_M_keep 10 = .ok (.iload_n 1, 1) := by decide +kernel
theorem d_M_keep_11 : decode b_M_keep 11 = .ok (.aload_n 0, 1) := by decide +kernel
theorem d_M_keep_12 : decode b_M_keep 12 = .ok (.getfield 40, 3) := by decide +kernel
theorem d_M_keep_15 : decode b_M_keep 15 = .ok (.if_icmp .ge 21, 3) := by decide +kernel
theorem d_M_keep_18 : decode b_M_keep 18 = .ok (.aload_n 0, 1) := by decide +kernel
theorem d_M_keep_19 : decode b_M_keep 19 = .ok (.getfield 29, 3) := by decide +kernel
theorem d_M_keep_22 : decode b_M_keep 22 = .ok (.iload_n 1, 1) := by decide +kernel
theorem d_M_keep_23 : decode b_M_keep 23 = .ok (.aload_n 0, 1) := by decide +kernel
theorem d_M_keep_24 : decode b_M_keep 24 = .ok (.getfield 9, 3) := by decide +kernel
theorem d_M_keep_27 : decode b_M_keep 27 = .ok (.iload_n 1, 1) := by decide +kernel
theorem d_M_keep_28 : decode b_M_keep 28 = .ok (.iaload, 1) := by decide +kernel
theorem d_M_keep_29 : decode b_M_keep 29 = .ok (.iastore, 1) := by decide +kernel
theorem d_M_keep_30 : decode b_M_keep 30 = .ok (.iinc 1 1, 3) := by decide +kernel
theorem d_M_keep_33 : decode b_M_keep 33 = .ok (.goto (-23), 3) := by decide +kernel
theorem d_M_keep_36 : decode b_M_keep 36 = .ok (.aload_n 0, 1) := by decide +kernel
theorem d_M_keep_37 : decode b_M_keep 37 = .ok (.iconst 0, 1) := by decide +kernel
theorem d_M_keep_38 : decode b_M_keep 38 = .ok (.putfield 55, 3) := by decide +kernel
theorem d_M_keep_41 : decode b_M_keep 41 = .ok (.return_, 1) := by decide +kernel
theorem d_M_undo_0 : decode b_M_undo 0 = .ok (.aload_n 0, 1) := by decide +kernel
theorem d_M_undo_1 : decode b_M_undo 1 = .ok (.aload_n 0, 1) := by decide +kernel
theorem d_M_undo_2 : decode b_M_undo 2 = .ok (.getfield 52, 3) := by decide +kernel
theorem d_M_undo_5 : decode b_M_undo 5 = .ok (.putfield 40, 3) := by decide +kernel
theorem d_M_undo_8 : decode b_M_undo 8 = .ok (.iconst 0, 1) := by decide +kernel
theorem d_M_undo_9 : decode b_M_undo 9 = .ok (.istore_n 2, 1) := by decide +kernel
theorem d_M_undo_10 : decode b_M_undo 10 = .ok (.iload_n 2, 1) := by decide +kernel
theorem d_M_undo_11 : decode b_M_undo 11 = .ok (.aload_n 0, 1) := by decide +kernel
theorem d_M_undo_12 : decode b_M_undo 12 = .ok (.getfield 40, 3) := by decide +kernel
theorem d_M_undo_15 : decode b_M_undo 15 = .ok (.if_icmp .ge 21, 3) := by decide +kernel
theorem d_M_undo_18 : decode b_M_undo 18 = .ok (.aload_n 0, 1) := by decide +kernel
theorem d_M_undo_19 : decode b_M_undo 19 = .ok (.getfield 9, 3) := by decide +kernel
theorem d_M_undo_22 : decode b_M_undo 22 = .ok (.iload_n 2, 1) := by decide +kernel
theorem d_M_undo_23 : decode b_M_undo 23 = .ok (.aload_n 0, 1) := by decide +kernel
theorem d_M_undo_24 : decode b_M_undo 24 = .ok (.getfield 29, 3) := by decide +kernel
theorem d_M_undo_27 : decode b_M_undo 27 = .ok (.iload_n 2, 1) := by decide +kernel
theorem d_M_undo_28 : decode b_M_undo 28 = .ok (.iaload, 1) := by decide +kernel
theorem d_M_undo_29 : decode b_M_undo 29 = .ok (.iastore, 1) := by decide +kernel
theorem d_M_undo_30 : decode b_M_undo 30 = .ok (.iinc 2 1, 3) := by decide +kernel
theorem d_M_undo_33 : decode b_M_undo 33 = .ok (.goto (-23), 3) := by decide +kernel
theorem d_M_undo_36 : decode b_M_undo 36 = .ok (.aload_n 0, 1) := by decide +kernel
theorem d_M_undo_37 : decode b_M_undo 37 = .ok (.iload_n 1, 1) := by decide +kernel
theorem d_M_undo_38 : decode b_M_undo 38 = .ok (.putfield 36, 3) := by decide +kernel
theorem d_M_undo_41 : decode b_M_undo 41 = .ok (.iconst 0, 1) := by decide +kernel
theorem d_M_undo_42 : decode b_M_undo 42 = .ok (.ireturn, 1) := by decide +kernel
theorem d_M_well_0 : decode b_M_well 0 = .ok (.aload_n 0, 1) := by decide +kernel
theorem d_M_well_1 : decode b_M_well 1 = .ok (.dup, 1) := by decide +kernel
theorem d_M_well_2 : decode b_M_well 2 = .ok (.getfield 49, 3) := by decide +kernel
theorem d_M_well_5 : decode b_M_well 5 = .ok (.iconst 1, 1) := by decide +kernel
theorem d_M_well_6 : decode b_M_well 6 = .ok (.iadd, 1) := by decide +kernel
theorem d_M_well_7 : decode b_M_well 7 = .ok (.putfield 49, 3) := by decide +kernel
theorem d_M_well_10 : decode b_M_well 10 = .ok (.aload_n 0, 1) := by decide +kernel
theorem d_M_well_11 : decode b_M_well 11 = .ok (.aload_n 0, 1) := by decide +kernel
theorem d_M_well_12 : decode b_M_well 12 = .ok (.getfield 46, 3) := by decide +kernel
theorem d_M_well_15 : decode b_M_well 15 = .ok (.aload_n 0, 1) := by decide +kernel
theorem d_M_well_16 : decode b_M_well 16 = .ok (.getfield 40, 3) := by decide +kernel
theorem d_M_well_19 : decode b_M_well 19 = .ok (.invokestatic 59, 3) := by decide +kernel
theorem d_M_well_22 : decode b_M_well 22 = .ok (.putfield 46, 3) := by decide +kernel
theorem d_M_well_25 : decode b_M_well 25 = .ok (.return_, 1) := by decide +kernel
theorem d_M_inner_0 : decode b_M_inner 0 = .ok (.aload_n 0, 1) := by decide +kernel
theorem d_M_inner_1 : decode b_M_inner 1 = .ok (.getfield 43, 3) := by decide +kernel
theorem d_M_inner_4 : decode b_M_inner 4 = .ok (.iconst 1, 1) := by decide +kernel
theorem d_M_inner_5 : decode b_M_inner 5 = .ok (.isub, 1) := by decide +kernel
theorem d_M_inner_6 : decode b_M_inner 6 = .ok (.ireturn, 1) := by decide +kernel
theorem d_M_take_0 : decode b_M_take 0 = .ok (.aload_n 0, 1) := by decide +kernel
theorem d_M_take_1 : decode b_M_take 1 = .ok (.iconst 0, 1) := by decide +kernel
theorem d_M_take_2 : decode b_M_take 2 = .ok (.putfield 65, 3) := by decide +kernel
theorem d_M_take_5 : decode b_M_take 5 = .ok (.aload_n 0, 1) := by decide +kernel
theorem d_M_take_6 : decode b_M_take 6 = .ok (.getfield 40, 3) := by decide +kernel
theorem d_M_take_9 : decode b_M_take 9 = .ok (.aload_n 0, 1) := by decide +kernel
theorem d_M_take_10 : decode b_M_take 10 = .ok (.getfield 22, 3) := by decide +kernel
theorem d_M_take_13 : decode b_M_take 13 = .ok (.aload_n 0, 1) := by decide +kernel
theorem d_M_take_14 : decode b_M_take 14 = .ok (.invokevirtual 68, 3) := by decide +kernel
theorem d_M_take_17 : decode b_M_take 17 = .ok (.iaload, 1) := by decide +kernel
theorem d_M_take_18 : decode b_M_take 18 = .ok (.if_icmp .le 29, 3) := by decide +kernel
theorem d_M_take_21 : decode b_M_take 21 = .ok (.aload_n 0, 1) := by decide +kernel
theorem d_M_take_22 : decode b_M_take 22 = .ok (.dup, 1) := by decide +kernel
theorem d_M_take_23 : decode b_M_take 23 = .ok (.getfield 40, 3) := by decide +kernel
theorem d_M_take_26 : decode b_M_take 26 = .ok (.iconst 1, 1) := by decide +kernel
theorem d_M_take_27 : decode b_M_take 27 = .ok (.isub, 1) := by decide +kernel
theorem d_M_take_28 : decode b_M_take 28 = .ok (.putfield 40, 3) := by decide +kernel
theorem d_M_take_31 : decode b_M_take 31 = .ok (.aload_n 0, 1) := by decide +kernel
theorem d_M_take_32 : decode b_M_take 32 = .ok (.aload_n 0, 1) := by decide +kernel
theorem d_M_take_33 : decode b_M_take 33 = .ok (.getfield 9, 3) := by decide +kernel
theorem d_M_take_36 : decode b_M_take 36 = .ok (.aload_n 0, 1) := by decide +kernel
theorem d_M_take_37 : decode b_M_take 37 = .ok (.getfield 40, 3) := by decide +kernel
theorem d_M_take_40 : decode b_M_take 40 = .ok (.iaload, 1) := by decide +kernel
theorem d_M_take_41 : decode b_M_take 41 = .ok (.putfield 65, 3) := by decide +kernel
theorem d_M_take_44 : decode b_M_take 44 = .ok (.goto 20, 3) := by decide +kernel
theorem d_M_take_47 : decode b_M_take 47 = .ok (.aload_n 0, 1) := by decide +kernel
theorem d_M_take_48 : decode b_M_take 48 = .ok (.getfield 25, 3) := by decide +kernel
theorem d_M_take_51 : decode b_M_take 51 = .ok (.aload_n 0, 1) := by decide +kernel
theorem d_M_take_52 : decode b_M_take 52 = .ok (.invokevirtual 68, 3) := by decide +kernel
theorem d_M_take_55 : decode b_M_take 55 = .ok (.baload, 1) := by decide +kernel
theorem d_M_take_56 : decode b_M_take 56 = .ok (.ifCond .ne 8, 3) := by decide +kernel
theorem d_M_take_59 : decode b_M_take 59 = .ok (.aload_n 0, 1) := by decide +kernel
theorem d_M_take_60 : decode b_M_take 60 = .ok (.iconst 1, 1) := by decide +kernel
theorem d_M_take_61 : decode b_M_take 61 = .ok (.putfield 55, 3) := by decide +kernel
theorem d_M_take_64 : decode b_M_take 64 = .ok (.return_, 1) := by decide +kernel
theorem d_M_take1_0 : decode b_M_take1 0 = .ok (.aload_n 0, 1) := by decide +kernel
theorem d_M_take1_1 : decode b_M_take1 1 = .ok (.invokevirtual 72, 3) := by decide +kernel
theorem d_M_take1_4 : decode b_M_take1 4 = .ok (.aload_n 0, 1) := by decide +kernel
theorem d_M_take1_5 : decode b_M_take1 5 = .ok (.getfield 65, 3) := by decide +kernel
theorem d_M_take1_8 : decode b_M_take1 8 = .ok (.ifCond .eq 16, 3) := by decide +kernel
theorem d_M_take1_11 : decode b_M_take1 11 = .ok (.aload_n 0, 1) := by decide +kernel
theorem d_M_take1_12 : decode b_M_take1 12 = .ok (.getfield 65, 3) := by decide +kernel
theorem d_M_take1_15 : decode b_M_take1 15 = .ok (.iload_n 1, 1) := by decide +kernel
theorem d_M_take1_16 : decode b_M_take1 16 = .ok (.if_icmp .eq 8, 3) := by decide +kernel
theorem d_M_take1_19 : decode b_M_take1 19 = .ok (.aload_n 0, 1) := by decide +kernel
theorem d_M_take1_20 : decode b_M_take1 20 = .ok (.iconst 1, 1) := by decide +kernel
theorem d_M_take1_21 : decode b_M_take1 21 = .ok (.putfield 55, 3) := by decide +kernel
theorem d_M_take1_24 : decode b_M_take1 24 = .ok (.return_, 1) := by decide +kernel
theorem d_M_takeAll_0 : decode b_M_takeAll 0 = .ok (.iload_n 1, 1) := by decide +kernel
theorem d_M_takeAll_1 : decode b_M_takeAll 1 = .ok (.istore_n 2, 1) := by decide +kernel
theorem d_M_takeAll_2 : decode b_M_takeAll 2 = .ok (.iload_n 2, 1) := by decide +kernel
theorem d_M_takeAll_3 : decode b_M_takeAll 3 = .ok (.ifCond .le 17, 3) := by decide +kernel
theorem d_M_takeAll_6 : decode b_M_takeAll 6 = .ok (.aload_n 0, 1) := by decide +kernel
theorem d_M_takeAll_7 : decode b_M_takeAll 7 = .ok (.iload_n 2, 1) := by decide +kernel
theorem d_M_takeAll_8 : decode b_M_takeAll 8 = .ok (.iconst 5, 1) := by decide +kernel
theorem d_M_takeAll_9 : decode b_M_takeAll 9 = .ok (.irem, 1) := by decide +kernel
theorem d_M_takeAll_10 : decode b_M_takeAll 10 = .ok (.invokevirtual 75, 3) := by decide +kernel
theorem d_M_takeAll_13 : decode b_M_takeAll 13 = .ok (.iload_n 2, 1) := by decide +kernel
theorem d_M_takeAll_14 : decode b_M_takeAll 14 = .ok (.iconst 5, 1) := by decide +kernel
theorem d_M_takeAll_15 : decode b_M_takeAll 15 = .ok (.idiv, 1) := by decide +kernel
theorem d_M_takeAll_16 : decode b_M_takeAll 16 = .ok (.istore_n 2, 1) := by decide +kernel
theorem d_M_takeAll_17 : decode b_M_takeAll 17 = .ok (.goto (-15), 3) := by decide +kernel
theorem d_M_takeAll_20 : decode b_M_takeAll 20 = .ok (.return_, 1) := by decide +kernel
theorem d_M_put_0 : decode b_M_put 0 = .ok (.aload_n 0, 1) := by decide +kernel
theorem d_M_put_1 : decode b_M_put 1 = .ok (.getfield 40, 3) := by decide +kernel
theorem d_M_put_4 : decode b_M_put 4 = .ok (.sipush 400, 3) := by decide +kernel
theorem d_M_put_7 : decode b_M_put 7 = .ok (.if_icmp .ge 13, 3) := by decide +kernel
theorem d_M_put_10 : decode b_M_put 10 = .ok (.aload_n 0, 1) := by decide +kernel
theorem d_M_put_11 : decode b_M_put 11 = .ok (.getfield 9, 3) := by decide +kernel
theorem d_M_put_14 : decode b_M_put 14 = .ok (.aload_n 0, 1) := by decide +kernel
theorem d_M_put_15 : decode b_M_put 15 = .ok (.getfield 40, 3) := by decide +kernel
theorem d_M_put_18 : decode b_M_put 18 = .ok (.iload_n 1, 1) := by decide +kernel
theorem d_M_put_19 : decode b_M_put 19 = .ok (.iastore, 1) := by decide +kernel
theorem d_M_put_20 : decode b_M_put 20 = .ok (.aload_n 0, 1) := by decide +kernel
theorem d_M_put_21 : decode b_M_put 21 = .ok (.dup, 1) := by decide +kernel
theorem d_M_put_22 : decode b_M_put 22 = .ok (.getfield 40, 3) := by decide +kernel
theorem d_M_put_25 : decode b_M_put 25 = .ok (.iconst 1, 1) := by decide +kernel
theorem d_M_put_26 : decode b_M_put 26 = .ok (.iadd, 1) := by decide +kernel
theorem d_M_put_27 : decode b_M_put 27 = .ok (.putfield 40, 3) := by decide +kernel
theorem d_M_put_30 : decode b_M_put 30 = .ok (.return_, 1) := by decide +kernel
theorem d_M_putAll_0 : decode b_M_putAll 0 = .ok (.iconst 1, 1) := by decide +kernel
theorem d_M_putAll_1 : decode b_M_putAll 1 = .ok (.istore_n 2, 1) := by decide +kernel
theorem d_M_putAll_2 : decode b_M_putAll 2 = .ok (.iload_n 2, 1) := by decide +kernel
theorem d_M_putAll_3 : decode b_M_putAll 3 = .ok (.iload_n 1, 1) := by decide +kernel
theorem d_M_putAll_4 : decode b_M_putAll 4 = .ok (.iconst 5, 1) := by decide +kernel
theorem d_M_putAll_5 : decode b_M_putAll 5 = .ok (.idiv, 1) := by decide +kernel
theorem d_M_putAll_6 : decode b_M_putAll 6 = .ok (.if_icmp .gt 10, 3) := by decide +kernel
theorem d_M_putAll_9 : decode b_M_putAll 9 = .ok (.iload_n 2, 1) := by decide +kernel
theorem d_M_putAll_10 : decode b_M_putAll 10 = .ok (.iconst 5, 1) := by decide +kernel
theorem d_M_putAll_11 : decode b_M_putAll 11 = .ok (.imul, 1) := by decide +kernel
theorem d_M_putAll_12 : decode b_M_putAll 12 = .ok (.istore_n 2, 1) := by decide +kernel
theorem d_M_putAll_13 : decode b_M_putAll 13 = .ok (.goto (-11), 3) := by decide +kernel
theorem d_M_putAll_16 : decode b_M_putAll 16 = .ok (.iload_n 2, 1) := by decide +kernel
theorem d_M_putAll_17 : decode b_M_putAll 17 = .ok (.istore_n 3, 1) := by decide +kernel
theorem d_M_putAll_18 : decode b_M_putAll 18 = .ok (.iload_n 1, 1) := by decide +kernel
theorem d_M_putAll_19 : decode b_M_putAll 19 = .ok (.ifCond .le 23, 3) := by decide +kernel
theorem d_M_putAll_22 : decode b_M_putAll 22 = .ok (.iload_n 3, 1) := by decide +kernel
theorem d_M_putAll_23 : decode b_M_putAll 23 = .ok (.ifCond .le 19, 3) := by decide +kernel
theorem d_M_putAll_26 : decode b_M_putAll 26 = .ok (.aload_n 0, 1) := by decide +kernel
theorem d_M_putAll_27 : decode b_M_putAll 27 = .ok (.iload_n 1, 1) := by decide +kernel
theorem d_M_putAll_28 : decode b_M_putAll 28 = .ok (.iload_n 3, 1) := by decide +kernel
theorem d_M_putAll_29 : decode b_M_putAll 29 = .ok (.idiv, 1) := by decide +kernel
theorem d_M_putAll_30 : decode b_M_putAll 30 = .ok (.iconst 5, 1) := by decide +kernel
theorem d_M_putAll_31 : decode b_M_putAll 31 = .ok (.irem, 1) := by decide +kernel
theorem d_M_putAll_32 : decode b_M_putAll 32 = .ok (.invokevirtual 77, 3) := by decide +kernel
theorem d_M_putAll_35 : decode b_M_putAll 35 = .ok (.iload_n 3, 1) := by decide +kernel
theorem d_M_putAll_36 : decode b_M_putAll 36 = .ok (.iconst 5, 1) := by decide +kernel
theorem d_M_putAll_37 : decode b_M_putAll 37 = .ok (.idiv, 1) := by decide +kernel
theorem d_M_putAll_38 : decode b_M_putAll 38 = .ok (.istore_n 3, 1) := by decide +kernel
theorem d_M_putAll_39 : decode b_M_putAll 39 = .ok (.goto (-21), 3) := by decide +kernel
theorem d_M_putAll_42 : decode b_M_putAll 42 = .ok (.return_, 1) := by decide +kernel
theorem d_M_die_0 : decode b_M_die 0 = .ok (.aload_n 0, 1) := by decide +kernel
theorem d_M_die_1 : decode b_M_die 1 = .ok (.aload_n 0, 1) := by decide +kernel
theorem d_M_die_2 : decode b_M_die 2 = .ok (.getfield 22, 3) := by decide +kernel
theorem d_M_die_5 : decode b_M_die 5 = .ok (.aload_n 0, 1) := by decide +kernel
theorem d_M_die_6 : decode b_M_die 6 = .ok (.invokevirtual 68, 3) := by decide +kernel
theorem d_M_die_9 : decode b_M_die 9 = .ok (.iaload, 1) := by decide +kernel
theorem d_M_die_10 : decode b_M_die 10 = .ok (.putfield 40, 3) := by decide +kernel
theorem d_M_die_13 : decode b_M_die 13 = .ok (.aload_n 0, 1) := by decide +kernel
theorem d_M_die_14 : decode b_M_die 14 = .ok (.getfield 25, 3) := by decide +kernel
theorem d_M_die_17 : decode b_M_die 17 = .ok (.aload_n 0, 1) := by decide +kernel
theorem d_M_die_18 : decode b_M_die 18 = .ok (.invokevirtual 68, 3) := by decide +kernel
theorem d_M_die_21 : decode b_M_die 21 = .ok (.iconst 1, 1) := by decide +kernel
theorem d_M_die_22 : decode b_M_die 22 = .ok (.bastore, 1) := by decide +kernel
theorem d_M_die_23 : decode b_M_die 23 = .ok (.return_, 1) := by decide +kernel
theorem d_M_noLabel_0 : decode b_M_noLabel 0 = .ok (.iload_n 1, 1) := by decide +kernel
theorem d_M_noLabel_1 : decode b_M_noLabel 1 = .ok (.ifCond .lt 11, 3) := by decide +kernel
theorem d_M_noLabel_4 : decode b_M_noLabel 4 = .ok (.iload_n 1, 1) := by decide +kernel
theorem d_M_noLabel_5 : decode b_M_noLabel 5 = .ok (.aload_n 0, 1) := by decide +kernel
theorem d_M_noLabel_6 : decode b_M_noLabel 6 = .ok (.getfield 43, 3) := by decide +kernel
theorem d_M_noLabel_9 : decode b_M_noLabel 9 = .ok (.if_icmp .lt 7, 3) := by decide +kernel
theorem d_M_noLabel_12 : decode b_M_noLabel 12 = .ok (.iconst 1, 1) := by decide +kernel
theorem d_M_noLabel_13 : decode b_M_noLabel 13 = .ok (.goto 4, 3) := by decide +kernel
theorem d_M_noLabel_16 : decode b_M_noLabel 16 = .ok (.iconst 0, 1) := by decide +kernel
theorem d_M_noLabel_17 : decode b_M_noLabel 17 = .ok (.ireturn, 1) := by decide +kernel
theorem d_M_wants_0 : decode b_M_wants 0 = .ok (.aload_n 0, 1) := by decide +kernel
theorem d_M_wants_1 : decode b_M_wants 1 = .ok (.getfield 43, 3) := by decide +kernel
theorem d_M_wants_4 : decode b_M_wants 4 = .ok (.iconst 1, 1) := by decide +kernel
theorem d_M_wants_5 : decode b_M_wants 5 = .ok (.isub, 1) := by decide +kernel
theorem d_M_wants_6 : decode b_M_wants 6 = .ok (.iload_n 1, 1) := by decide +kernel
theorem d_M_wants_7 : decode b_M_wants 7 = .ok (.isub, 1) := by decide +kernel
theorem d_M_wants_8 : decode b_M_wants 8 = .ok (.istore_n 2, 1) := by decide +kernel
theorem d_M_wants_9 : decode b_M_wants 9 = .ok (.aload_n 0, 1) := by decide +kernel
theorem d_M_wants_10 : decode b_M_wants 10 = .ok (.getfield 13, 3) := by decide +kernel
theorem d_M_wants_13 : decode b_M_wants 13 = .ok (.iload_n 2, 1) := by decide +kernel
theorem d_M_wants_14 : decode b_M_wants 14 = .ok (.iaload, 1) := by decide +kernel
theorem d_M_wants_15 : decode b_M_wants 15 = .ok (.iconst 1, 1) := by decide +kernel
theorem d_M_wants_16 : decode b_M_wants 16 = .ok (.if_icmp .ne 12, 3) := by decide +kernel
theorem d_M_wants_19 : decode b_M_wants 19 = .ok (.aload_n 0, 1) := by decide +kernel
theorem d_M_wants_20 : decode b_M_wants 20 = .ok (.getfield 16, 3) := by decide +kernel
theorem d_M_wants_23 : decode b_M_wants 23 = .ok (.iload_n 2, 1) := by decide +kernel
theorem d_M_wants_24 : decode b_M_wants 24 = .ok (.iaload, 1) := by decide +kernel
theorem d_M_wants_25 : decode b_M_wants 25 = .ok (.goto 9, 3) := by decide +kernel
theorem d_M_wants_28 : decode b_M_wants 28 = .ok (.aload_n 0, 1) := by decide +kernel
theorem d_M_wants_29 : decode b_M_wants 29 = .ok (.getfield 19, 3) := by decide +kernel
theorem d_M_wants_32 : decode b_M_wants 32 = .ok (.iload_n 2, 1) := by decide +kernel
theorem d_M_wants_33 : decode b_M_wants 33 = .ok (.iaload, 1) := by decide +kernel
theorem d_M_wants_34 : decode b_M_wants 34 = .ok (.ireturn, 1) := by decide +kernel
theorem d_M_begin_0 : decode b_M_begin 0 = .ok (.aload_n 0, 1) := by decide +kernel
theorem d_M_begin_1 : decode b_M_begin 1 = .ok (.iload_n 1, 1) := by decide +kernel
theorem d_M_begin_2 : decode b_M_begin 2 = .ok (.invokestatic 80, 3) := by decide +kernel
theorem d_M_begin_5 : decode b_M_begin 5 = .ok (.ifCond .eq 7, 3) := by decide +kernel
theorem d_M_begin_8 : decode b_M_begin 8 = .ok (.iconst 0, 1) := by decide +kernel
theorem d_M_begin_9 : decode b_M_begin 9 = .ok (.goto 4, 3) := by decide +kernel
theorem d_M_begin_12 : decode b_M_begin 12 = .ok (.iconst 1, 1) := by decide +kernel
theorem d_M_begin_13 : decode b_M_begin 13 = .ok (.putfield 36, 3) := by decide +kernel
theorem d_M_begin_16 : decode b_M_begin 16 = .ok (.aload_n 0, 1) := by decide +kernel
theorem d_M_begin_17 : decode b_M_begin 17 = .ok (.getfield 36, 3) := by decide +kernel
theorem d_M_begin_20 : decode b_M_begin 20 = .ok (.ifCond .ne 8, 3) := by decide +kernel
theorem d_M_begin_23 : decode b_M_begin 23 = .ok (.aload_n 0, 1) := by decide +kernel
theorem d_M_begin_24 : decode b_M_begin 24 = .ok (.iload_n 1, 1) := by decide +kernel
theorem d_M_begin_25 : decode b_M_begin 25 = .ok (.invokevirtual 32, 3) := by decide +kernel
theorem d_M_begin_28 : decode b_M_begin 28 = .ok (.return_, 1) := by decide +kernel
theorem d_M_apply_0 : decode b_M_apply 0 = .ok (.aload_n 0, 1) := by decide +kernel
theorem d_M_apply_1 : decode b_M_apply 1 = .ok (.iload_n 1, 1) := by decide +kernel
theorem d_M_apply_2 : decode b_M_apply 2 = .ok (.invokestatic 80, 3) := by decide +kernel
theorem d_M_apply_5 : decode b_M_apply 5 = .ok (.ifCond .eq 10, 3) := by decide +kernel
theorem d_M_apply_8 : decode b_M_apply 8 = .ok (.iload_n 2, 1) := by decide +kernel
theorem d_M_apply_9 : decode b_M_apply 9 = .ok (.invokestatic 80, 3) := by decide +kernel
theorem d_M_apply_12 : decode b_M_apply 12 = .ok (.ifCond .ne 7, 3) := by decide +kernel
theorem d_M_apply_15 : decode b_M_apply 15 = .ok (.iconst 1, 1) := by decide +kernel
theorem d_M_apply_16 : decode b_M_apply 16 = .ok (.goto 15, 3) := by decide +kernel
theorem d_M_apply_19 : decode b_M_apply 19 = .ok (.aload_n 0, 1) := by decide +kernel
theorem d_M_apply_20 : decode b_M_apply 20 = .ok (.getfield 43, 3) := by decide +kernel
theorem d_M_apply_23 : decode b_M_apply 23 = .ok (.ifCond .ne 7, 3) := by decide +kernel
theorem d_M_apply_26 : decode b_M_apply 26 = .ok (.iconst 2, 1) := by decide +kernel
theorem d_M_apply_27 : decode b_M_apply 27 = .ok (.goto 4, 3) := by decide +kernel
theorem d_M_apply_30 : decode b_M_apply 30 = .ok (.iconst 0, 1) := by decide +kernel
theorem d_M_apply_31 : decode b_M_apply 31 = .ok (.putfield 36, 3) := by decide +kernel
theorem d_M_apply_34 : decode b_M_apply 34 = .ok (.aload_n 0, 1) := by decide +kernel
theorem d_M_apply_35 : decode b_M_apply 35 = .ok (.getfield 36, 3) := by decide +kernel
theorem d_M_apply_38 : decode b_M_apply 38 = .ok (.ifCond .le 5, 3) := by decide +kernel
theorem d_M_apply_41 : decode b_M_apply 41 = .ok (.iconst 0, 1) := by decide +kernel
theorem d_M_apply_42 : decode b_M_apply 42 = .ok (.ireturn, 1) := by decide +kernel
theorem d_M_apply_43 : decode b_M_apply 43 = .ok (.aload_n 0, 1) := by decide +kernel
theorem d_M_apply_44 : decode b_M_apply 44 = .ok (.invokevirtual 84, 3) := by decide +kernel
theorem d_M_apply_47 : decode b_M_apply 47 = .ok (.aload_n 0, 1) := by decide +kernel
theorem d_M_apply_48 : decode b_M_apply 48 = .ok (.iload_n 1, 1) := by decide +kernel
theorem d_M_apply_49 : decode b_M_apply 49 = .ok (.invokevirtual 87, 3) := by decide +kernel
theorem d_M_apply_52 : decode b_M_apply 52 = .ok (.aload_n 0, 1) := by decide +kernel
theorem d_M_apply_53 : decode b_M_apply 53 = .ok (.getfield 55, 3) := by decide +kernel
theorem d_M_apply_56 : decode b_M_apply 56 = .ok (.ifCond .eq 9, 3) := by decide +kernel
theorem d_M_apply_59 : decode b_M_apply 59 = .ok (.aload_n 0, 1) := by decide +kernel
theorem d_M_apply_60 : decode b_M_apply 60 = .ok (.iconst 3, 1) := by decide +kernel
theorem d_M_apply_61 : decode b_M_apply 61 = .ok (.invokevirtual 90, 3) := by decide +kernel
theorem d_M_apply_64 : decode b_M_apply 64 = .ok (.ireturn, 1) := by decide +kernel
theorem d_M_apply_65 : decode b_M_apply 65 = .ok (.aload_n 0, 1) := by decide +kernel
theorem d_M_apply_66 : decode b_M_apply 66 = .ok (.iload_n 2, 1) := by decide +kernel
theorem d_M_apply_67 : decode b_M_apply 67 = .ok (.invokevirtual 94, 3) := by decide +kernel
theorem d_M_apply_70 : decode b_M_apply 70 = .ok (.aload_n 0, 1) := by decide +kernel
theorem d_M_apply_71 : decode b_M_apply 71 = .ok (.getfield 40, 3) := by decide +kernel
theorem d_M_apply_74 : decode b_M_apply 74 = .ok (.sipush 300, 3) := by decide +kernel
theorem d_M_apply_77 : decode b_M_apply 77 = .ok (.if_icmp .le 9, 3) := by decide +kernel
theorem d_M_apply_80 : decode b_M_apply 80 = .ok (.aload_n 0, 1) := by decide +kernel
theorem d_M_apply_81 : decode b_M_apply 81 = .ok (.iconst 4, 1) := by decide +kernel
theorem d_M_apply_82 : decode b_M_apply 82 = .ok (.invokevirtual 90, 3) := by decide +kernel
theorem d_M_apply_85 : decode b_M_apply 85 = .ok (.ireturn, 1) := by decide +kernel
theorem d_M_apply_86 : decode b_M_apply 86 = .ok (.aload_n 0, 1) := by decide +kernel
theorem d_M_apply_87 : decode b_M_apply 87 = .ok (.invokevirtual 97, 3) := by decide +kernel
theorem d_M_apply_90 : decode b_M_apply 90 = .ok (.aload_n 0, 1) := by decide +kernel
theorem d_M_apply_91 : decode b_M_apply 91 = .ok (.getfield 40, 3) := by decide +kernel
theorem d_M_apply_94 : decode b_M_apply 94 = .ok (.ireturn, 1) := by decide +kernel
theorem d_M_drop_0 : decode b_M_drop 0 = .ok (.aload_n 0, 1) := by decide +kernel
theorem d_M_drop_1 : decode b_M_drop 1 = .ok (.aload_n 0, 1) := by decide +kernel
theorem d_M_drop_2 : decode b_M_drop 2 = .ok (.getfield 43, 3) := by decide +kernel
theorem d_M_drop_5 : decode b_M_drop 5 = .ok (.ifCond .ne 7, 3) := by decide +kernel
theorem d_M_drop_8 : decode b_M_drop 8 = .ok (.iconst 1, 1) := by decide +kernel
theorem d_M_drop_9 : decode b_M_drop 9 = .ok (.goto 4, 3) := by decide +kernel
theorem d_M_drop_12 : decode b_M_drop 12 = .ok (.iconst 0, 1) := by decide +kernel
theorem d_M_drop_13 : decode b_M_drop 13 = .ok (.putfield 36, 3) := by decide +kernel
theorem d_M_drop_16 : decode b_M_drop 16 = .ok (.aload_n 0, 1) := by decide +kernel
theorem d_M_drop_17 : decode b_M_drop 17 = .ok (.getfield 36, 3) := by decide +kernel
theorem d_M_drop_20 : decode b_M_drop 20 = .ok (.ifCond .le 5, 3) := by decide +kernel
theorem d_M_drop_23 : decode b_M_drop 23 = .ok (.iconst 0, 1) := by decide +kernel
theorem d_M_drop_24 : decode b_M_drop 24 = .ok (.ireturn, 1) := by decide +kernel
theorem d_M_drop_25 : decode b_M_drop 25 = .ok (.aload_n 0, 1) := by decide +kernel
theorem d_M_drop_26 : decode b_M_drop 26 = .ok (.invokevirtual 84, 3) := by decide +kernel
theorem d_M_drop_29 : decode b_M_drop 29 = .ok (.aload_n 0, 1) := by decide +kernel
theorem d_M_drop_30 : decode b_M_drop 30 = .ok (.invokevirtual 72, 3) := by decide +kernel
theorem d_M_drop_33 : decode b_M_drop 33 = .ok (.aload_n 0, 1) := by decide +kernel
theorem d_M_drop_34 : decode b_M_drop 34 = .ok (.getfield 55, 3) := by decide +kernel
theorem d_M_drop_37 : decode b_M_drop 37 = .ok (.ifCond .eq 9, 3) := by decide +kernel
theorem d_M_drop_40 : decode b_M_drop 40 = .ok (.aload_n 0, 1) := by decide +kernel
theorem d_M_drop_41 : decode b_M_drop 41 = .ok (.iconst 2, 1) := by decide +kernel
theorem d_M_drop_42 : decode b_M_drop 42 = .ok (.invokevirtual 90, 3) := by decide +kernel
theorem d_M_drop_45 : decode b_M_drop 45 = .ok (.ireturn, 1) := by decide +kernel
theorem d_M_drop_46 : decode b_M_drop 46 = .ok (.aload_n 0, 1) := by decide +kernel
theorem d_M_drop_47 : decode b_M_drop 47 = .ok (.invokevirtual 97, 3) := by decide +kernel
theorem d_M_drop_50 : decode b_M_drop 50 = .ok (.aload_n 0, 1) := by decide +kernel
theorem d_M_drop_51 : decode b_M_drop 51 = .ok (.getfield 65, 3) := by decide +kernel
theorem d_M_drop_54 : decode b_M_drop 54 = .ok (.ireturn, 1) := by decide +kernel
