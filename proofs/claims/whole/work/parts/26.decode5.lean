theorem d_M_back_0 : decode b_M_back 0 = .ok (.aload_n 0, 1) := by decide +kernel
theorem d_M_back_1 : decode b_M_back 1 = .ok (.aload_n 0, 1) := by decide +kernel
theorem d_M_back_2 : decode b_M_back 2 = .ok (.getfield 43, 3) := by decide +kernel
theorem d_M_back_5 : decode b_M_back 5 = .ok (.ifCond .ne 7, 3) := by decide +kernel
theorem d_M_back_8 : decode b_M_back 8 = .ok (.iconst 1, 1) := by decide +kernel
theorem d_M_back_9 : decode b_M_back 9 = .ok (.goto 4, 3) := by decide +kernel
theorem d_M_back_12 : decode b_M_back 12 = .ok (.iconst 0, 1) := by decide +kernel
theorem d_M_back_13 : decode b_M_back 13 = .ok (.putfield 36, 3) := by decide +kernel
theorem d_M_back_16 : decode b_M_back 16 = .ok (.aload_n 0, 1) := by decide +kernel
theorem d_M_back_17 : decode b_M_back 17 = .ok (.getfield 36, 3) := by decide +kernel
theorem d_M_back_20 : decode b_M_back 20 = .ok (.ifCond .le 4, 3) := by decide +kernel
theorem d_M_back_23 : decode b_M_back 23 = .ok (.return_, 1) := by decide +kernel
theorem d_M_back_24 : decode b_M_back 24 = .ok (.aload_n 0, 1) := by decide +kernel
theorem d_M_back_25 : decode b_M_back 25 = .ok (.invokevirtual 84, 3) := by decide +kernel
theorem d_M_back_28 : decode b_M_back 28 = .ok (.aload_n 0, 1) := by decide +kernel
theorem d_M_back_29 : decode b_M_back 29 = .ok (.aload_n 0, 1) := by decide +kernel
theorem d_M_back_30 : decode b_M_back 30 = .ok (.getfield 19, 3) := by decide +kernel
theorem d_M_back_33 : decode b_M_back 33 = .ok (.iconst 0, 1) := by decide +kernel
theorem d_M_back_34 : decode b_M_back 34 = .ok (.iaload, 1) := by decide +kernel
theorem d_M_back_35 : decode b_M_back 35 = .ok (.invokevirtual 87, 3) := by decide +kernel
theorem d_M_back_38 : decode b_M_back 38 = .ok (.aload_n 0, 1) := by decide +kernel
theorem d_M_back_39 : decode b_M_back 39 = .ok (.getfield 55, 3) := by decide +kernel
theorem d_M_back_42 : decode b_M_back 42 = .ok (.ifCond .eq 10, 3) := by decide +kernel
theorem d_M_back_45 : decode b_M_back 45 = .ok (.aload_n 0, 1) := by decide +kernel
theorem d_M_back_46 : decode b_M_back 46 = .ok (.iconst 2, 1) := by decide +kernel
theorem d_M_back_47 : decode b_M_back 47 = .ok (.invokevirtual 90, 3) := by decide +kernel
theorem d_M_back_50 : decode b_M_back 50 = .ok (.pop, 1) := by decide +kernel
theorem d_M_back_51 : decode b_M_back 51 = .ok (.return_, 1) := by decide +kernel
theorem d_M_back_52 : decode b_M_back 52 = .ok (.aload_n 0, 1) := by decide +kernel
theorem d_M_back_53 : decode b_M_back 53 = .ok (.invokevirtual 109, 3) := by decide +kernel
theorem d_M_back_56 : decode b_M_back 56 = .ok (.aload_n 0, 1) := by decide +kernel
theorem d_M_back_57 : decode b_M_back 57 = .ok (.invokevirtual 97, 3) := by decide +kernel
theorem d_M_back_60 : decode b_M_back 60 = .ok (.return_, 1) := by decide +kernel
theorem d_M_never_0 : decode b_M_never 0 = .ok (.aload_n 0, 1) := by decide +kernel
theorem d_M_never_1 : decode b_M_never 1 = .ok (.aload_n 0, 1) := by decide +kernel
theorem d_M_never_2 : decode b_M_never 2 = .ok (.getfield 43, 3) := by decide +kernel
theorem d_M_never_5 : decode b_M_never 5 = .ok (.ifCond .ne 7, 3) := by decide +kernel
theorem d_M_never_8 : decode b_M_never 8 = .ok (.iconst 1, 1) := by decide +kernel
theorem d_M_never_9 : decode b_M_never 9 = .ok (.goto 4, 3) := by decide +kernel
theorem d_M_never_12 : decode b_M_never 12 = .ok (.iconst 0, 1) := by decide +kernel
theorem d_M_never_13 : decode b_M_never 13 = .ok (.putfield 36, 3) := by decide +kernel
theorem d_M_never_16 : decode b_M_never 16 = .ok (.aload_n 0, 1) := by decide +kernel
theorem d_M_never_17 : decode b_M_never 17 = .ok (.getfield 36, 3) := by decide +kernel
theorem d_M_never_20 : decode b_M_never 20 = .ok (.ifCond .le 4, 3) := by decide +kernel
theorem d_M_never_23 : decode b_M_never 23 = .ok (.return_, 1) := by decide +kernel
theorem d_M_never_24 : decode b_M_never 24 = .ok (.aload_n 0, 1) := by decide +kernel
theorem d_M_never_25 : decode b_M_never 25 = .ok (.invokevirtual 109, 3) := by decide +kernel
theorem d_M_never_28 : decode b_M_never 28 = .ok (.aload_n 0, 1) := by decide +kernel
theorem d_M_never_29 : decode b_M_never 29 = .ok (.invokevirtual 97, 3) := by decide +kernel
theorem d_M_never_32 : decode b_M_never 32 = .ok (.return_, 1) := by decide +kernel
theorem d_M_top_0 : decode b_M_top 0 = .ok (.aload_n 0, 1) := by decide +kernel
theorem d_M_top_1 : decode b_M_top 1 = .ok (.iconst 0, 1) := by decide +kernel
theorem d_M_top_2 : decode b_M_top 2 = .ok (.putfield 36, 3) := by decide +kernel
theorem d_M_top_5 : decode b_M_top 5 = .ok (.iload_n 1, 1) := by decide +kernel
theorem d_M_top_6 : decode b_M_top 6 = .ok (.ifCond .lt 11, 3) := by decide +kernel
theorem d_M_top_9 : decode b_M_top 9 = .ok (.iload_n 1, 1) := by decide +kernel
theorem d_M_top_10 : decode b_M_top 10 = .ok (.aload_n 0, 1) := by decide +kernel
theorem d_M_top_11 : decode b_M_top 11 = .ok (.getfield 40, 3) := by decide +kernel
theorem d_M_top_14 : decode b_M_top 14 = .ok (.if_icmp .lt 7, 3) := by decide +kernel
theorem d_M_top_17 : decode b_M_top 17 = .ok (.iconst (-1), 1) := by decide +kernel
theorem d_M_top_18 : decode b_M_top 18 = .ok (.goto 16, 3) := by decide +kernel
theorem d_M_top_21 : decode b_M_top 21 = .ok (.aload_n 0, 1) := by decide +kernel
theorem d_M_top_22 : decode b_M_top 22 = .ok (.getfield 9, 3) := by decide +kernel
theorem d_M_top_25 : decode b_M_top 25 = .ok (.aload_n 0, 1) := by decide +kernel
theorem d_M_top_26 : decode b_M_top 26 = .ok (.getfield 40, 3) := by decide +kernel
theorem d_M_top_29 : decode b_M_top 29 = .ok (.iconst 1, 1) := by decide +kernel
theorem d_M_top_30 : decode b_M_top 30 = .ok (.isub, 1) := by decide +kernel
theorem d_M_top_31 : decode b_M_top 31 = .ok (.iload_n 1, 1) := by decide +kernel
theorem d_M_top_32 : decode b_M_top 32 = .ok (.isub, 1) := by decide +kernel
theorem d_M_top_33 : decode b_M_top 33 = .ok (.iaload, 1) := by decide +kernel
theorem d_M_top_34 : decode b_M_top 34 = .ok (.ireturn, 1) := by decide +kernel
theorem d_M_frame_0 : decode b_M_frame 0 = .ok (.aload_n 0, 1) := by decide +kernel
theorem d_M_frame_1 : decode b_M_frame 1 = .ok (.aload_n 0, 1) := by decide +kernel
theorem d_M_frame_2 : decode b_M_frame 2 = .ok (.iload_n 1, 1) := by decide +kernel
theorem d_M_frame_3 : decode b_M_frame 3 = .ok (.invokevirtual 103, 3) := by decide +kernel
theorem d_M_frame_6 : decode b_M_frame 6 = .ok (.ifCond .eq 7, 3) := by decide +kernel
theorem d_M_frame_9 : decode b_M_frame 9 = .ok (.iconst 1, 1) := by decide +kernel
theorem d_M_frame_10 : decode b_M_frame 10 = .ok (.goto 17, 3) := by decide +kernel
theorem d_M_frame_13 : decode b_M_frame 13 = .ok (.iload_n 2, 1) := by decide +kernel
theorem d_M_frame_14 : decode b_M_frame 14 = .ok (.ifCond .lt 8, 3) := by decide +kernel
theorem d_M_frame_17 : decode b_M_frame 17 = .ok (.iload_n 2, 1) := by decide +kernel
theorem d_M_frame_18 : decode b_M_frame 18 = .ok (.iconst 5, 1) := by decide +kernel
theorem d_M_frame_19 : decode b_M_frame 19 = .ok (.if_icmp .le 7, 3) := by decide +kernel
theorem d_M_frame_22 : decode b_M_frame 22 = .ok (.iconst 2, 1) := by decide +kernel
theorem d_M_frame_23 : decode b_M_frame 23 = .ok (.goto 4, 3) := by decide +kernel
theorem d_M_frame_26 : decode b_M_frame 26 = .ok (.iconst 0, 1) := by decide +kernel
theorem d_M_frame_27 : decode b_M_frame 27 = .ok (.putfield 36, 3) := by decide +kernel
theorem d_M_frame_30 : decode b_M_frame 30 = .ok (.aload_n 0, 1) := by decide +kernel
theorem d_M_frame_31 : decode b_M_frame 31 = .ok (.getfield 36, 3) := by decide +kernel
theorem d_M_frame_34 : decode b_M_frame 34 = .ok (.ifCond .le 5, 3) := by decide +kernel
theorem d_M_frame_37 : decode b_M_frame 37 = .ok (.iconst 0, 1) := by decide +kernel
theorem d_M_frame_38 : decode b_M_frame 38 = .ok (.ireturn, 1) := by decide +kernel
theorem d_M_frame_39 : decode b_M_frame 39 = .ok (.aload_n 0, 1) := by decide +kernel
theorem d_M_frame_40 : decode b_M_frame 40 = .ok (.getfield 43, 3) := by decide +kernel
theorem d_M_frame_43 : decode b_M_frame 43 = .ok (.iconst 1, 1) := by decide +kernel
theorem d_M_frame_44 : decode b_M_frame 44 = .ok (.isub, 1) := by decide +kernel
theorem d_M_frame_45 : decode b_M_frame 45 = .ok (.iload_n 1, 1) := by decide +kernel
theorem d_M_frame_46 : decode b_M_frame 46 = .ok (.isub, 1) := by decide +kernel
theorem d_M_frame_47 : decode b_M_frame 47 = .ok (.istore_n 3, 1) := by decide +kernel
theorem d_M_frame_48 : decode b_M_frame 48 = .ok (.iload_n 2, 1) := by decide +kernel
theorem d_M_frame_49 : decode b_M_frame 49 = .ok (.tableswitch 78 0 4 #[35, 42, 49, 56, 63], 35) := by decide +kernel
theorem d_M_frame_84 : decode b_M_frame 84 = .ok (.aload_n 0, 1) := by decide +kernel
theorem d_M_frame_85 : decode b_M_frame 85 = .ok (.getfield 13, 3) := by decide +kernel
theorem d_M_frame_88 : decode b_M_frame 88 = .ok (.iload_n 3, 1) := by decide +kernel
theorem d_M_frame_89 : decode b_M_frame 89 = .ok (.iaload, 1) := by decide +kernel
theorem d_M_frame_90 : decode b_M_frame 90 = .ok (.ireturn, 1) := by decide +kernel
theorem d_M_frame_91 : decode b_M_frame 91 = .ok (.aload_n 0, 1) := by decide +kernel
theorem d_M_frame_92 : decode b_M_frame 92 = .ok (.getfield 16, 3) := by decide +kernel
theorem d_M_frame_95 : decode b_M_frame 95 = .ok (.iload_n 3, 1) := by decide +kernel
theorem d_M_frame_96 : decode b_M_frame 96 = .ok (.iaload, 1) := by decide +kernel
theorem d_M_frame_97 : decode b_M_frame 97 = .ok (.ireturn, 1) := by decide +kernel
theorem d_M_frame_98 : decode b_M_frame 98 = .ok (.aload_n 0, 1) := by decide +kernel
theorem d_M_frame_99 : decode b_M_frame 99 = .ok (.getfield 19, 3) := by decide +kernel
theorem d_M_frame_102 : decode b_M_frame 102 = .ok (.iload_n 3, 1) := by decide +kernel
theorem d_M_frame_103 : decode b_M_frame 103 = .ok (.iaload, 1) := by decide +kernel
theorem d_M_frame_104 : decode b_M_frame 104 = .ok (.ireturn, 1) := by decide +kernel
theorem d_M_frame_105 : decode b_M_frame 105 = .ok (.aload_n 0, 1) := by decide +kernel
theorem d_M_frame_106 : decode b_M_frame 106 = .ok (.getfield 22, 3) := by decide +kernel
theorem d_M_frame_109 : decode b_M_frame 109 = .ok (.iload_n 3, 1) := by decide +kernel
theorem d_M_frame_110 : decode b_M_frame 110 = .ok (.iaload, 1) := by decide +kernel
theorem d_M_frame_111 : decode b_M_frame 111 = .ok (.ireturn, 1) := by decide +kernel
theorem d_M_frame_112 : decode b_M_frame 112 = .ok (.aload_n 0, 1) := by decide +kernel
theorem d_M_frame_113 : decode b_M_frame 113 = .ok (.getfield 25, 3) := by decide +kernel
theorem d_M_frame_116 : decode b_M_frame 116 = .ok (.iload_n 3, 1) := by decide +kernel
theorem d_M_frame_117 : decode b_M_frame 117 = .ok (.baload, 1) := by decide +kernel
theorem d_M_frame_118 : decode b_M_frame 118 = .ok (.ifCond .eq 7, 3) := by decide +kernel
theorem d_M_frame_121 : decode b_M_frame 121 = .ok (.iconst 1, 1) := by decide +kernel
theorem d_M_frame_122 : decode b_M_frame 122 = .ok (.goto 4, 3) := by decide +kernel
theorem d_M_frame_125 : decode b_M_frame 125 = .ok (.iconst 0, 1) := by decide +kernel
theorem d_M_frame_126 : decode b_M_frame 126 = .ok (.ireturn, 1) := by decide +kernel
theorem d_M_frame_127 : decode b_M_frame 127 = .ok (.aload_n 0, 1) := by decide +kernel
theorem d_M_frame_128 : decode b_M_frame 128 = .ok (.iload_n 1, 1) := by decide +kernel
theorem d_M_frame_129 : decode b_M_frame 129 = .ok (.invokevirtual 106, 3) := by decide +kernel
theorem d_M_frame_132 : decode b_M_frame 132 = .ok (.ireturn, 1) := by decide +kernel
theorem d_M_count_0 : decode b_M_count 0 = .ok (.aload_n 0, 1) := by decide +kernel
theorem d_M_count_1 : decode b_M_count 1 = .ok (.iconst 0, 1) := by decide +kernel
theorem d_M_count_2 : decode b_M_count 2 = .ok (.putfield 36, 3) := by decide +kernel
theorem d_M_count_5 : decode b_M_count 5 = .ok (.iload_n 1, 1) := by decide +kernel
theorem d_M_count_6 : decode b_M_count 6 = .ok (.tableswitch 50 0 3 #[30, 35, 40, 45], 30) := by decide +kernel
theorem d_M_count_36 : decode b_M_count 36 = .ok (.aload_n 0, 1) := by decide +kernel
theorem d_M_count_37 : decode b_M_count 37 = .ok (.getfield 40, 3) := by decide +kernel
theorem d_M_count_40 : decode b_M_count 40 = .ok (.ireturn, 1) := by decide +kernel
theorem d_M_count_41 : decode b_M_count 41 = .ok (.aload_n 0, 1) := by decide +kernel
theorem d_M_count_42 : decode b_M_count 42 = .ok (.getfield 43, 3) := by decide +kernel
theorem d_M_count_45 : decode b_M_count 45 = .ok (.ireturn, 1) := by decide +kernel
theorem d_M_count_46 : decode b_M_count 46 = .ok (.aload_n 0, 1) := by decide +kernel
theorem d_M_count_47 : decode b_M_count 47 = .ok (.getfield 46, 3) := by decide +kernel
theorem d_M_count_50 : decode b_M_count 50 = .ok (.ireturn, 1) := by decide +kernel
theorem d_M_count_51 : decode b_M_count 51 = .ok (.aload_n 0, 1) := by decide +kernel
theorem d_M_count_52 : decode b_M_count 52 = .ok (.getfield 49, 3) := by decide +kernel
theorem d_M_count_55 : decode b_M_count 55 = .ok (.ireturn, 1) := by decide +kernel
theorem d_M_count_56 : decode b_M_count 56 = .ok (.iconst (-1), 1) := by decide +kernel
theorem d_M_count_57 : decode b_M_count 57 = .ok (.ireturn, 1) := by decide +kernel
theorem d_L_begin_0 : decode b_L_begin 0 = .ok (.aload_n 0, 1) := by decide +kernel
theorem d_L_begin_1 : decode b_L_begin 1 = .ok (.iload_n 1, 1) := by decide +kernel
theorem d_L_begin_2 : decode b_L_begin 2 = .ok (.invokevirtual 7, 3) := by decide +kernel
theorem d_L_begin_5 : decode b_L_begin 5 = .ok (.goto 6, 3) := by decide +kernel
theorem d_L_begin_8 : decode b_L_begin 8 = .ok (.astore_n 2, 1) := by decide +kernel
theorem d_L_begin_9 : decode b_L_begin 9 = .ok (.iconst 1, 1) := by decide +kernel
theorem d_L_begin_10 : decode b_L_begin 10 = .ok (.ireturn, 1) := by decide +kernel
theorem d_L_begin_11 : decode b_L_begin 11 = .ok (.iconst 0, 1) := by decide +kernel
theorem d_L_begin_12 : decode b_L_begin 12 = .ok (.ireturn, 1) := by decide +kernel
theorem d_L_apply_0 : decode b_L_apply 0 = .ok (.aload_n 3, 1) := by decide +kernel
theorem d_L_apply_1 : decode b_L_apply 1 = .ok (.iconst 0, 1) := by decide +kernel
theorem d_L_apply_2 : decode b_L_apply 2 = .ok (.aload_n 0, 1) := by decide +kernel
theorem d_L_apply_3 : decode b_L_apply 3 = .ok (.iload_n 1, 1) := by decide +kernel
theorem d_L_apply_4 : decode b_L_apply 4 = .ok (.iload_n 2, 1) := by decide +kernel
theorem d_L_apply_5 : decode b_L_apply 5 = .ok (.invokevirtual 15, 3) := by decide +kernel
theorem d_L_apply_8 : decode b_L_apply 8 = .ok (.i2l, 1) := by decide +kernel
theorem d_L_apply_9 : decode b_L_apply 9 = .ok (.lastore, 1) := by decide +kernel
theorem d_L_apply_10 : decode b_L_apply 10 = .ok (.goto 19, 3) := by decide +kernel
theorem d_L_apply_13 : decode b_L_apply 13 = .ok (.astore 4, 2) := by decide +kernel
theorem d_L_apply_15 : decode b_L_apply 15 = .ok (.iconst 1, 1) := by decide +kernel
theorem d_L_apply_16 : decode b_L_apply 16 = .ok (.ireturn, 1) := by decide +kernel
theorem d_L_apply_17 : decode b_L_apply 17 = .ok (.astore 4, 2) := by decide +kernel
theorem d_L_apply_19 : decode b_L_apply 19 = .ok (.iconst 2, 1) := by decide +kernel
theorem d_L_apply_20 : decode b_L_apply 20 = .ok (.ireturn, 1) := by decide +kernel
theorem d_L_apply_21 : decode b_L_apply 21 = .ok (.astore 4, 2) := by decide +kernel
theorem d_L_apply_23 : decode b_L_apply 23 = .ok (.iconst 3, 1) := by decide +kernel
theorem d_L_apply_24 : decode b_L_apply 24 = .ok (.ireturn, 1) := by decide +kernel
theorem d_L_apply_25 : decode b_L_apply 25 = .ok (.astore 4, 2) := by decide +kernel
theorem d_L_apply_27 : decode b_L_apply 27 = .ok (.iconst 4, 1) := by decide +kernel
theorem d_L_apply_28 : decode b_L_apply 28 = .ok (.ireturn, 1) := by decide +kernel
theorem d_L_apply_29 : decode b_L_apply 29 = .ok (.iconst 0, 1) := by decide +kernel
theorem d_L_apply_30 : decode b_L_apply 30 = .ok (.ireturn, 1) := by decide +kernel
theorem d_L_drop_0 : decode b_L_drop 0 = .ok (.aload_n 1, 1) := by decide +kernel
theorem d_L_drop_1 : decode b_L_drop 1 = .ok (.iconst 0, 1) := by decide +kernel
theorem d_L_drop_2 : decode b_L_drop 2 = .ok (.aload_n 0, 1) := by decide +kernel
theorem d_L_drop_3 : decode b_L_drop 3 = .ok (.invokevirtual 25, 3) := by decide +kernel
theorem d_L_drop_6 : decode b_L_drop 6 = .ok (.i2l, 1) := by decide +kernel
theorem d_L_drop_7 : decode b_L_drop 7 = .ok (.lastore, 1) := by decide +kernel
theorem d_L_drop_8 : decode b_L_drop 8 = .ok (.goto 9, 3) := by decide +kernel
theorem d_L_drop_11 : decode b_L_drop 11 = .ok (.astore_n 2, 1) := by decide +kernel
theorem d_L_drop_12 : decode b_L_drop 12 = .ok (.iconst 1, 1) := by decide +kernel
theorem d_L_drop_13 : decode b_L_drop 13 = .ok (.ireturn, 1) := by decide +kernel
theorem d_L_drop_14 : decode b_L_drop 14 = .ok (.astore_n 2, 1) := by decide +kernel
theorem d_L_drop_15 : decode b_L_drop 15 = .ok (.iconst 2, 1) := by decide +kernel
theorem d_L_drop_16 : decode b_L_drop 16 = .ok (.ireturn, 1) := by decide +kernel
theorem d_L_drop_17 : decode b_L_drop 17 = .ok (.iconst 0, 1) := by decide +kernel
theorem d_L_drop_18 : decode b_L_drop 18 = .ok (.ireturn, 1) := by decide +kernel
theorem d_L_select_0 : decode b_L_select 0 = .ok (.aload_n 1, 1) := by decide +kernel
theorem d_L_select_1 : decode b_L_select 1 = .ok (.iconst 0, 1) := by decide +kernel
theorem d_L_select_2 : decode b_L_select 2 = .ok (.aload_n 0, 1) := by decide +kernel
theorem d_L_select_3 : decode b_L_select 3 = .ok (.invokevirtual 29, 3) := by decide +kernel
theorem d_L_select_6 : decode b_L_select 6 = .ok (.i2l, 1) := by decide +kernel
theorem d_L_select_7 : decode b_L_select 7 = .ok (.lastore, 1) := by decide +kernel
theorem d_L_select_8 : decode b_L_select 8 = .ok (.goto 15, 3) := by decide +kernel
theorem d_L_select_11 : decode b_L_select 11 = .ok (.astore_n 2, 1) := by decide +kernel
theorem d_L_select_12 : decode b_L_select 12 = .ok (.iconst 1, 1) := by decide +kernel
theorem d_L_select_13 : decode b_L_select 13 = .ok (.ireturn, 1) := by decide +kernel
theorem d_L_select_14 : decode b_L_select 14 = .ok (.astore_n 2, 1) := by decide +kernel
theorem d_L_select_15 : decode b_L_select 15 = .ok (.iconst 2, 1) := by decide +kernel
theorem d_L_select_16 : decode b_L_select 16 = .ok (.ireturn, 1) := by decide +kernel
theorem d_L_select_17 : decode b_L_select 17 = .ok (.astore_n 2, 1) := by decide +kernel
theorem d_L_select_18 : decode b_L_select 18 = .ok (.iconst 3, 1) := by decide +kernel
theorem d_L_select_19 : decode b_L_select 19 = .ok (.ireturn, 1) := by decide +kernel
theorem d_L_select_20 : decode b_L_select 20 = .ok (.astore_n 2, 1) := by decide +kernel
theorem d_L_select_21 : decode b_L_select 21 = .ok (.iconst 4, 1) := by decide +kernel
theorem d_L_select_22 : decode b_L_select 22 = .ok (.ireturn, 1) := by decide +kernel
theorem d_L_select_23 : decode b_L_select 23 = .ok (.iconst 0, 1) := by decide +kernel
theorem d_L_select_24 : decode b_L_select 24 = .ok (.ireturn, 1) := by decide +kernel
theorem d_L_block_0 : decode b_L_block 0 = .ok (.aload 4, 2) := by decide +kernel
theorem d_L_block_2 : decode b_L_block 2 = .ok (.iconst 0, 1) := by decide +kernel
theorem d_L_block_3 : decode b_L_block 3 = .ok (.aload_n 0, 1) := by decide +kernel
theorem d_L_block_4 : decode b_L_block 4 = .ok (.iload_n 1, 1) := by decide +kernel
theorem d_L_block_5 : decode b_L_block 5 = .ok (.iload_n 2, 1) := by decide +kernel
theorem d_L_block_6 : decode b_L_block 6 = .ok (.iload_n 3, 1) := by decide +kernel
theorem d_L_block_7 : decode b_L_block 7 = .ok (.invokevirtual 34, 3) := by decide +kernel
theorem d_L_block_10 : decode b_L_block 10 = .ok (.i2l, 1) := by decide +kernel
theorem d_L_block_11 : decode b_L_block 11 = .ok (.lastore, 1) := by decide +kernel
theorem d_L_block_12 : decode b_L_block 12 = .ok (.goto 19, 3) := by decide +kernel
theorem d_L_block_15 : decode b_L_block 15 = .ok (.astore 5, 2) := by decide +kernel
theorem d_L_block_17 : decode b_L_block 17 = .ok (.iconst 1, 1) := by decide +kernel
theorem d_L_block_18 : decode b_L_block 18 = .ok (.ireturn, 1) := by decide +kernel
theorem d_L_block_19 : decode b_L_block 19 = .ok (.astore 5, 2) := by decide +kernel
theorem d_L_block_21 : decode b_L_block 21 = .ok (.iconst 2, 1) := by decide +kernel
theorem d_L_block_22 : decode b_L_block 22 = .ok (.ireturn, 1) := by decide +kernel
theorem d_L_block_23 : decode b_L_block 23 = .ok (.astore 5, 2) := by decide +kernel
theorem d_L_block_25 : decode b_L_block 25 = .ok (.iconst 3, 1) := by decide +kernel
theorem d_L_block_26 : decode b_L_block 26 = .ok (.ireturn, 1) := by decide +kernel
theorem d_L_block_27 : decode b_L_block 27 = .ok (.astore 5, 2) := by decide +kernel
theorem d_L_block_29 : decode b_L_block 29 = .ok (.iconst 4, 1) := by decide +kernel
theorem d_L_block_30 : decode b_L_block 30 = .ok (.ireturn, 1) := by decide +kernel
theorem d_L_block_31 : decode b_L_block 31 = .ok (.iconst 0, 1) := by decide +kernel
theorem d_L_block_32 : decode b_L_block 32 = .ok (.ireturn, 1) := by decide +kernel
theorem d_L_otherwise_0 : decode b_L_otherwise 0 = .ok (.aload_n 0, 1) := by decide +kernel
theorem d_L_otherwise_1 : decode b_L_otherwise 1 = .ok (.invokevirtual 38, 3) := by decide +kernel
theorem d_L_otherwise_4 : decode b_L_otherwise 4 = .ok (.goto 12, 3) := by decide +kernel
theorem d_L_otherwise_7 : decode b_L_otherwise 7 = .ok (.astore_n 1, 1) := by decide +kernel
theorem d_L_otherwise_8 : decode b_L_otherwise 8 = .ok (.iconst 1, 1) := by decide +kernel
theorem d_L_otherwise_9 : decode b_L_otherwise 9 = .ok (.ireturn, 1) := by decide +kernel
theorem d_L_otherwise_10 : decode b_L_otherwise 10 = .ok (.astore_n 1, 1) := by decide +kernel
theorem d_L_otherwise_11 : decode b_L_otherwise 11 = .ok (.iconst 2, 1) := by decide +kernel
theorem d_L_otherwise_12 : decode b_L_otherwise 12 = .ok (.ireturn, 1) := by decide +kernel
theorem d_L_otherwise_13 : decode b_L_otherwise 13 = .ok (.astore_n 1, 1) := by decide +kernel
theorem d_L_otherwise_14 : decode b_L_otherwise 14 = .ok (.iconst 3, 1) := by decide +kernel
theorem d_L_otherwise_15 : decode b_L_otherwise 15 = .ok (.ireturn, 1) := by decide +kernel
theorem d_L_otherwise_16 : decode b_L_otherwise 16 = .ok (.iconst 0, 1) := by decide +kernel
theorem d_L_otherwise_17 : decode b_L_otherwise 17 = .ok (.ireturn, 1) := by decide +kernel
theorem d_L_end_0 : decode b_L_end 0 = .ok (.aload_n 1, 1) := by decide +kernel
theorem d_L_end_1 : decode b_L_end 1 = .ok (.iconst 0, 1) := by decide +kernel
theorem d_L_end_2 : decode b_L_end 2 = .ok (.aload_n 0, 1) := by decide +kernel
theorem d_L_end_3 : decode b_L_end 3 = .ok (.invokevirtual 41, 3) := by decide +kernel
theorem d_L_end_6 : decode b_L_end 6 = .ok (.i2l, 1) := by decide +kernel
theorem d_L_end_7 : decode b_L_end 7 = .ok (.lastore, 1) := by decide +kernel
theorem d_L_end_8 : decode b_L_end 8 = .ok (.goto 15, 3) := by decide +kernel
theorem d_L_end_11 : decode b_L_end 11 = .ok (.astore_n 2, 1) := by decide +kernel
theorem d_L_end_12 : decode b_L_end 12 = .ok (.iconst 1, 1) := by decide +kernel
theorem d_L_end_13 : decode b_L_end 13 = .ok (.ireturn, 1) := by decide +kernel
theorem d_L_end_14 : decode b_L_end 14 = .ok (.astore_n 2, 1) := by decide +kernel
theorem d_L_end_15 : decode b_L_end 15 = .ok (.iconst 2, 1) := by decide +kernel
theorem d_L_end_16 : decode b_L_end 16 = .ok (.ireturn, 1) := by decide +kernel
theorem d_L_end_17 : decode b_L_end 17 = .ok (.astore_n 2, 1) := by decide +kernel
theorem d_L_end_18 : decode b_L_end 18 = .ok (.iconst 3, 1) := by decide +kernel
theorem d_L_end_19 : decode b_L_end 19 = .ok (.ireturn, 1) := by decide +kernel
theorem d_L_end_20 : decode b_L_end 20 = .ok (.astore_n 2, 1) := by decide +kernel
theorem d_L_end_21 : decode b_L_end 21 = .ok (.iconst 4, 1) := by decide +kernel
theorem d_L_end_22 : decode b_L_end 22 = .ok (.ireturn, 1) := by decide +kernel
theorem d_L_end_23 : decode b_L_end 23 = .ok (.iconst 0, 1) := by decide +kernel
theorem d_L_end_24 : decode b_L_end 24 = .ok (.ireturn, 1) := by decide +kernel
theorem d_L_leap_0 : decode b_L_leap 0 = .ok (.aload_n 0, 1) := by decide +kernel
theorem d_L_leap_1 : decode b_L_leap 1 = .ok (.iload_n 1, 1) := by decide +kernel
theorem d_L_leap_2 : decode b_L_leap 2 = .ok (.invokevirtual 44, 3) := by decide +kernel
theorem d_L_leap_5 : decode b_L_leap 5 = .ok (.goto 9, 3) := by decide +kernel
theorem d_L_leap_8 : decode b_L_leap 8 = .ok (.astore_n 2, 1) := by decide +kernel
theorem d_L_leap_9 : decode b_L_leap 9 = .ok (.iconst 1, 1) := by decide +kernel
theorem d_L_leap_10 : decode b_L_leap 10 = .ok (.ireturn, 1) := by decide +kernel
theorem d_L_leap_11 : decode b_L_leap 11 = .ok (.astore_n 2, 1) := by decide +kernel
theorem d_L_leap_12 : decode b_L_leap 12 = .ok (.iconst 2, 1) := by decide +kernel
theorem d_L_leap_13 : decode b_L_leap 13 = .ok (.ireturn, 1) := by decide +kernel
theorem d_L_leap_14 : decode b_L_leap 14 = .ok (.iconst 0, 1) := by decide +kernel
theorem d_L_leap_15 : decode b_L_leap 15 = .ok (.ireturn, 1) := by decide +kernel
theorem d_L_leapIf_0 : decode b_L_leapIf 0 = .ok (.aload_n 2, 1) := by decide +kernel
theorem d_L_leapIf_1 : decode b_L_leapIf 1 = .ok (.iconst 0, 1) := by decide +kernel
theorem d_L_leapIf_2 : decode b_L_leapIf 2 = .ok (.aload_n 0, 1) := by decide +kernel
theorem d_L_leapIf_3 : decode b_L_leapIf 3 = .ok (.iload_n 1, 1) := by decide +kernel
theorem d_L_leapIf_4 : decode b_L_leapIf 4 = .ok (.invokevirtual 47, 3) := by decide +kernel
theorem d_L_leapIf_7 : decode b_L_leapIf 7 = .ok (.i2l, 1) := by decide +kernel
theorem d_L_leapIf_8 : decode b_L_leapIf 8 = .ok (.lastore, 1) := by decide +kernel
theorem d_L_leapIf_9 : decode b_L_leapIf 9 = .ok (.goto 12, 3) := by decide +kernel
theorem d_L_leapIf_12 : decode b_L_leapIf 12 = .ok (.astore_n 3, 1) := by decide +kernel
theorem d_L_leapIf_13 : decode b_L_leapIf 13 = .ok (.iconst 1, 1) := by decide +kernel
theorem d_L_leapIf_14 : decode b_L_leapIf 14 = .ok (.ireturn, 1) := by decide +kernel
theorem d_L_leapIf_15 : decode b_L_leapIf 15 = .ok (.astore_n 3, 1) := by decide +kernel
theorem d_L_leapIf_16 : decode b_L_leapIf 16 = .ok (.iconst 2, 1) := by decide +kernel
theorem d_L_leapIf_17 : decode b_L_leapIf 17 = .ok (.ireturn, 1) := by decide +kernel
theorem d_L_leapIf_18 : decode b_L_leapIf 18 = .ok (.astore_n 3, 1) := by decide +kernel
theorem d_L_leapIf_19 : decode b_L_leapIf 19 = .ok (.iconst 3, 1) := by decide +kernel
theorem d_L_leapIf_20 : decode b_L_leapIf 20 = .ok (.ireturn, 1) := by decide +kernel
theorem d_L_leapIf_21 : decode b_L_leapIf 21 = .ok (.iconst 0, 1) := by decide +kernel
theorem d_L_leapIf_22 : decode b_L_leapIf 22 = .ok (.ireturn, 1) := by decide +kernel
theorem d_L_table_0 : decode b_L_table 0 = .ok (.aload_n 0, 1) := by decide +kernel
theorem d_L_table_1 : decode b_L_table 1 = .ok (.iload_n 1, 1) := by decide +kernel
theorem d_L_table_2 : decode b_L_table 2 = .ok (.iload_n 2, 1) := by decide +kernel
theorem d_L_table_3 : decode b_L_table 3 = .ok (.invokevirtual 51, 3) := by decide +kernel
theorem d_L_table_6 : decode b_L_table 6 = .ok (.goto 12, 3) := by decide +kernel
theorem d_L_table_9 : decode b_L_table 9 = .ok (.astore_n 3, 1) := by decide +kernel
theorem d_L_table_10 : decode b_L_table 10 = .ok (.iconst 1, 1) := by decide +kernel
theorem d_L_table_11 : decode b_L_table 11 = .ok (.ireturn, 1) := by decide +kernel
theorem d_L_table_12 : decode b_L_table 12 = .ok (.astore_n 3, 1) := by decide +kernel
theorem d_L_table_13 : decode b_L_table 13 = .ok (.iconst 2, 1) := by decide +kernel
theorem d_L_table_14 : decode b_L_table 14 = .ok (.ireturn, 1) := by decide +kernel
theorem d_L_table_15 : decode b_L_table 15 = .ok (.astore_n 3, 1) := by decide +kernel
theorem d_L_table_16 : decode b_L_table 16 = .ok (.iconst 3, 1) := by decide +kernel
theorem d_L_table_17 : decode b_L_table 17 = .ok (.ireturn, 1) := by decide +kernel
theorem d_L_table_18 : decode b_L_table 18 = .ok (.iconst 0, 1) := by decide +kernel
theorem d_L_table_19 : decode b_L_table 19 = .ok (.ireturn, 1) := by decide +kernel
theorem d_L_back_0 : decode b_L_back 0 = .ok (.aload_n 0, 1) := by decide +kernel
theorem d_L_back_1 : decode b_L_back 1 = .ok (.invokevirtual 55, 3) := by decide +kernel
theorem d_L_back_4 : decode b_L_back 4 = .ok (.goto 9, 3) := by decide +kernel
theorem d_L_back_7 : decode b_L_back 7 = .ok (.astore_n 1, 1) := by decide +kernel
theorem d_L_back_8 : decode b_L_back 8 = .ok (.iconst 1, 1) := by decide +kernel
theorem d_L_back_9 : decode b_L_back 9 = .ok (.ireturn, 1) := by decide +kernel
theorem d_L_back_10 : decode b_L_back 10 = .ok (.astore_n 1, 1) := by decide +kernel
theorem d_L_back_11 : decode b_L_back 11 = .ok (.iconst 2, 1) := by decide +kernel
theorem d_L_back_12 : decode b_L_back 12 = .ok (.ireturn, 1) := by decide +kernel
theorem d_L_back_13 : decode b_L_back 13 = .ok (.iconst 0, 1) := by decide +kernel
theorem d_L_back_14 : decode b_L_back 14 = .ok (.ireturn, 1) := by decide +kernel
theorem d_L_never_0 : decode b_L_never 0 = .ok (.aload_n 0, 1) := by decide +kernel
theorem d_L_never_1 : decode b_L_never 1 = .ok (.invokevirtual 58, 3) := by decide +kernel
theorem d_L_never_4 : decode b_L_never 4 = .ok (.goto 6, 3) := by decide +kernel
theorem d_L_never_7 : decode b_L_never 7 = .ok (.astore_n 1, 1) := by decide +kernel
theorem d_L_never_8 : decode b_L_never 8 = .ok (.iconst 1, 1) := by decide +kernel
theorem d_L_never_9 : decode b_L_never 9 = .ok (.ireturn, 1) := by decide +kernel
theorem d_L_never_10 : decode b_L_never 10 = .ok (.iconst 0, 1) := by decide +kernel
theorem d_L_never_11 : decode b_L_never 11 = .ok (.ireturn, 1) := by decide +kernel
theorem d_L_frame_0 : decode b_L_frame 0 = .ok (.aload_n 3, 1) := by decide +kernel
theorem d_L_frame_1 : decode b_L_frame 1 = .ok (.iconst 0, 1) := by decide +kernel
theorem d_L_frame_2 : decode b_L_frame 2 = .ok (.aload_n 0, 1) := by decide +kernel
theorem d_L_frame_3 : decode b_L_frame 3 = .ok (.iload_n 1, 1) := by decide +kernel
theorem d_L_frame_4 : decode b_L_frame 4 = .ok (.iload_n 2, 1) := by decide +kernel
theorem d_L_frame_5 : decode b_L_frame 5 = .ok (.invokevirtual 61, 3) := by decide +kernel
theorem d_L_frame_8 : decode b_L_frame 8 = .ok (.i2l, 1) := by decide +kernel
theorem d_L_frame_9 : decode b_L_frame 9 = .ok (.lastore, 1) := by decide +kernel
theorem d_L_frame_10 : decode b_L_frame 10 = .ok (.goto 11, 3) := by decide +kernel
theorem d_L_frame_13 : decode b_L_frame 13 = .ok (.astore 4, 2) := by decide +kernel
theorem d_L_frame_15 : decode b_L_frame 15 = .ok (.iconst 1, 1) := by decide +kernel
theorem d_L_frame_16 : decode b_L_frame 16 = .ok (.ireturn, 1) := by decide +kernel
theorem d_L_frame_17 : decode b_L_frame 17 = .ok (.astore 4, 2) := by decide +kernel
theorem d_L_frame_19 : decode b_L_frame 19 = .ok (.iconst 2, 1) := by decide +kernel
theorem d_L_frame_20 : decode b_L_frame 20 = .ok (.ireturn, 1) := by decide +kernel
theorem d_L_frame_21 : decode b_L_frame 21 = .ok (.iconst 0, 1) := by decide +kernel
theorem d_L_frame_22 : decode b_L_frame 22 = .ok (.ireturn, 1) := by decide +kernel
theorem d_L_law_0 : decode b_L_law 0 = .ok (.new 8, 3) := by decide +kernel
theorem d_L_law_3 : decode b_L_law 3 = .ok (.dup, 1) := by decide +kernel
theorem d_L_law_4 : decode b_L_law 4 = .ok (.invokespecial 64, 3) := by decide +kernel
theorem d_L_law_7 : decode b_L_law 7 = .ok (.astore_n 1, 1) := by decide +kernel
theorem d_L_law_8 : decode b_L_law 8 = .ok (.new 65, 3) := by decide +kernel
theorem d_L_law_11 : decode b_L_law 11 = .ok (.dup, 1) := by decide +kernel
theorem d_L_law_12 : decode b_L_law 12 = .ok (.invokespecial 67, 3) := by decide +kernel
theorem d_L_law_15 : decode b_L_law 15 = .ok (.astore_n 2, 1) := by decide +kernel
theorem d_L_law_16 : decode b_L_law 16 = .ok (.iconst 1, 1) := by decide +kernel
theorem d_L_law_17 : decode b_L_law 17 = .ok (.newarray .long, 2) := by decide +kernel
theorem d_L_law_19 : decode b_L_law 19 = .ok (.astore_n 3, 1) := by decide +kernel
theorem d_L_law_20 : decode b_L_law 20 = .ok (.iconst 0, 1) := by decide +kernel
theorem d_L_law_21 : decode b_L_law 21 = .ok (.istore 4, 2) := by decide +kernel
theorem d_L_law_23 : decode b_L_law 23 = .ok (.iload 4, 2) := by decide +kernel
theorem d_L_law_25 : decode b_L_law 25 = .ok (.aload_n 0, 1) := by decide +kernel
theorem d_L_law_26 : decode b_L_law 26 = .ok (.arraylength, 1) := by decide +kernel
theorem d_L_law_27 : decode b_L_law 27 = .ok (.iconst 4, 1) := by decide +kernel
theorem d_L_law_28 : decode b_L_law 28 = .ok (.isub, 1) := by decide +kernel
theorem d_L_law_29 : decode b_L_law 29 = .ok (.if_icmp .gt 735, 3) := by decide +kernel
theorem d_L_law_32 : decode b_L_law 32 = .ok (.aload_n 0, 1) := by decide +kernel
theorem d_L_law_33 : decode b_L_law 33 = .ok (.iload 4, 2) := by decide +kernel
theorem d_L_law_35 : decode b_L_law 35 = .ok (.iaload, 1) := by decide +kernel
theorem d_L_law_36 : decode b_L_law 36 = .ok (.bipush 15, 2) := by decide +kernel
theorem d_L_law_38 : decode b_L_law 38 = .ok (.iand, 1) := by decide +kernel
theorem d_L_law_39 : decode b_L_law 39 = .ok (.tableswitch 719 0 14 #[73, 109, 177, 221, 265, 345, 369, 413, 449, 505, 553, 577, 601, 626, 694], 73) := by decide +kernel
theorem d_L_law_112 : decode b_L_law 112 = .ok (.aload_n 1, 1) := by decide +kernel
theorem d_L_law_113 : decode b_L_law 113 = .ok (.aload_n 0, 1) := by decide +kernel
theorem d_L_law_114 : decode b_L_law 114 = .ok (.iload 4, 2) := by decide +kernel
theorem d_L_law_116 : decode b_L_law 116 = .ok (.iconst 1, 1) := by decide +kernel
theorem d_L_law_117 : decode b_L_law 117 = .ok (.iadd, 1) := by decide +kernel
theorem d_L_law_118 : decode b_L_law 118 = .ok (.iaload, 1) := by decide +kernel
theorem d_L_law_119 : decode b_L_law 119 = .ok (.invokestatic 68, 3) := by decide +kernel
theorem d_L_law_122 : decode b_L_law 122 = .ok (.istore 5, 2) := by decide +kernel
theorem d_L_law_124 : decode b_L_law 124 = .ok (.aload_n 2, 1) := by decide +kernel
theorem d_L_law_125 : decode b_L_law 125 = .ok (.aload_n 0, 1) := by decide +kernel
theorem d_L_law_126 : decode b_L_law 126 = .ok (.iload 4, 2) := by decide +kernel
theorem d_L_law_128 : decode b_L_law 128 = .ok (.iconst 1, 1) := by decide +kernel
theorem d_L_law_129 : decode b_L_law 129 = .ok (.iadd, 1) := by decide +kernel
theorem d_L_law_130 : decode b_L_law 130 = .ok (.iaload, 1) := by decide +kernel
theorem d_L_law_131 : decode b_L_law 131 = .ok (.invokevirtual 73, 3) := by decide +kernel
theorem d_L_law_134 : decode b_L_law 134 = .ok (.aload_n 2, 1) := by decide +kernel
theorem d_L_law_135 : decode b_L_law 135 = .ok (.invokevirtual 74, 3) := by decide +kernel
theorem d_L_law_138 : decode b_L_law 138 = .ok (.iload 5, 2) := by decide +kernel
theorem d_L_law_140 : decode b_L_law 140 = .ok (.if_icmp .eq 5, 3) := by decide +kernel
theorem d_L_law_143 : decode b_L_law 143 = .ok (.iconst 0, 1) := by decide +kernel
theorem d_L_law_144 : decode b_L_law 144 = .ok (.ireturn, 1) := by decide +kernel
theorem d_L_law_145 : decode b_L_law 145 = .ok (.goto 613, 3) := by decide +kernel
theorem d_L_law_148 : decode b_L_law 148 = .ok (.aload_n 1, 1) := by decide +kernel
theorem d_L_law_149 : decode b_L_law 149 = .ok (.aload_n 0, 1) := by decide +kernel
theorem d_L_law_150 : decode b_L_law 150 = .ok (.iload 4, 2) := by decide +kernel
theorem d_L_law_152 : decode b_L_law 152 = .ok (.iconst 1, 1) := by decide +kernel
theorem d_L_law_153 : decode b_L_law 153 = .ok (.iadd, 1) := by decide +kernel
theorem d_L_law_154 : decode b_L_law 154 = .ok (.iaload, 1) := by decide +kernel
theorem d_L_law_155 : decode b_L_law 155 = .ok (.aload_n 0, 1) := by decide +kernel
theorem d_L_law_156 : decode b_L_law 156 = .ok (.iload 4, 2) := by decide +kernel
theorem d_L_law_158 : decode b_L_law 158 = .ok (.iconst 2, 1) := by decide +kernel
theorem d_L_law_159 : decode b_L_law 159 = .ok (.iadd, 1) := by decide +kernel
theorem d_L_law_160 : decode b_L_law 160 = .ok (.iaload, 1) := by decide +kernel
theorem d_L_law_161 : decode b_L_law 161 = .ok (.aload_n 3, 1) := by decide +kernel
theorem d_L_law_162 : decode b_L_law 162 = .ok (.invokestatic 77, 3) := by decide +kernel
theorem d_L_law_165 : decode b_L_law 165 = .ok (.istore 5, 2) := by decide +kernel
theorem d_L_law_167 : decode b_L_law 167 = .ok (.aload_n 2, 1) := by decide +kernel
theorem d_L_law_168 : decode b_L_law 168 = .ok (.aload_n 0, 1) := by decide +kernel
theorem d_L_law_169 : decode b_L_law 169 = .ok (.iload 4, 2) := by decide +kernel
theorem d_L_law_171 : decode b_L_law 171 = .ok (.iconst 1, 1) := by decide +kernel
theorem d_L_law_172 : decode b_L_law 172 = .ok (.iadd, 1) := by decide +kernel
theorem d_L_law_173 : decode b_L_law 173 = .ok (.iaload, 1) := by decide +kernel
theorem d_L_law_174 : decode b_L_law 174 = .ok (.aload_n 0, 1) := by decide +kernel
theorem d_L_law_175 : decode b_L_law 175 = .ok (.iload 4, 2) := by decide +kernel
theorem d_L_law_177 : decode b_L_law 177 = .ok (.iconst 2, 1) := by decide +kernel
theorem d_L_law_178 : decode b_L_law 178 = .ok (.iadd, 1) := by decide +kernel
theorem d_L_law_179 : decode b_L_law 179 = .ok (.iaload, 1) := by decide +kernel
theorem d_L_law_180 : decode b_L_law 180 = .ok (.invokevirtual 80, 3) := by decide +kernel
theorem d_L_law_183 : decode b_L_law 183 = .ok (.istore 6, 2) := by decide +kernel
theorem d_L_law_185 : decode b_L_law 185 = .ok (.aload_n 2, 1) := by decide +kernel
theorem d_L_law_186 : decode b_L_law 186 = .ok (.invokevirtual 74, 3) := by decide +kernel
theorem d_L_law_189 : decode b_L_law 189 = .ok (.iload 5, 2) := by decide +kernel
theorem d_L_law_191 : decode b_L_law 191 = .ok (.if_icmp .eq 5, 3) := by decide +kernel
theorem d_L_law_194 : decode b_L_law 194 = .ok (.iconst 0, 1) := by decide +kernel
theorem d_L_law_195 : decode b_L_law 195 = .ok (.ireturn, 1) := by decide +kernel
theorem d_L_law_196 : decode b_L_law 196 = .ok (.iload 5, 2) := by decide +kernel
theorem d_L_law_198 : decode b_L_law 198 = .ok (.ifCond .ne 15, 3) := by decide +kernel
theorem d_L_law_201 : decode b_L_law 201 = .ok (.aload_n 3, 1) := by decide +kernel
theorem d_L_law_202 : decode b_L_law 202 = .ok (.iconst 0, 1) := by decide +kernel
theorem d_L_law_203 : decode b_L_law 203 = .ok (.laload, 1) := by decide +kernel
theorem d_L_law_204 : decode b_L_law 204 = .ok (.iload 6, 2) := by decide +kernel
theorem d_L_law_206 : decode b_L_law 206 = .ok (.i2l, 1) := by decide +kernel
theorem d_L_law_207 : decode b_L_law 207 = .ok (.lcmp, 1) := by decide +kernel
theorem d_L_law_208 : decode b_L_law 208 = .ok (.ifCond .eq 5, 3) := by decide +kernel
theorem d_L_law_211 : decode b_L_law 211 = .ok (.iconst 0, 1) := by decide +kernel
theorem d_L_law_212 : decode b_L_law 212 = .ok (.ireturn, 1) := by decide +kernel
theorem d_L_law_213 : decode b_L_law 213 = .ok (.goto 545, 3) := by decide +kernel
theorem d_L_law_216 : decode b_L_law 216 = .ok (.aload_n 1, 1) := by decide +kernel
theorem d_L_law_217 : decode b_L_law 217 = .ok (.aload_n 3, 1) := by decide +kernel
theorem d_L_law_218 : decode b_L_law 218 = .ok (.invokestatic 81, 3) := by decide +kernel
theorem d_L_law_221 : decode b_L_law 221 = .ok (.istore 5, 2) := by decide +kernel
theorem d_L_law_223 : decode b_L_law 223 = .ok (.aload_n 2, 1) := by decide +kernel
theorem d_L_law_224 : decode b_L_law 224 = .ok (.invokevirtual 84, 3) := by decide +kernel
theorem d_L_law_227 : decode b_L_law 227 = .ok (.istore 6, 2) := by decide +kernel
theorem d_L_law_229 : decode b_L_law 229 = .ok (.aload_n 2, 1) := by decide +kernel
theorem d_L_law_230 : decode b_L_law 230 = .ok (.invokevirtual 74, 3) := by decide +kernel
theorem d_L_law_233 : decode b_L_law 233 = .ok (.iload 5, 2) := by decide +kernel
theorem d_L_law_235 : decode b_L_law 235 = .ok (.if_icmp .eq 5, 3) := by decide +kernel
theorem d_L_law_238 : decode b_L_law 238 = .ok (.iconst 0, 1) := by decide +kernel
theorem d_L_law_239 : decode b_L_law 239 = .ok (.ireturn, 1) := by decide +kernel
theorem d_L_law_240 : decode b_L_law 240 = .ok (.iload 5, 2) := by decide +kernel
theorem d_L_law_242 : decode b_L_law 242 = .ok (.ifCond .ne 15, 3) := by decide +kernel
theorem d_L_law_245 : decode b_L_law 245 = .ok (.aload_n 3, 1) := by decide +kernel
theorem d_L_law_246 : decode b_L_law 246 = .ok (.iconst 0, 1) := by decide +kernel
theorem d_L_law_247 : decode b_L_law 247 = .ok (.laload, 1) := by decide +kernel
theorem d_L_law_248 : decode b_L_law 248 = .ok (.iload 6, 2) := by decide +kernel
theorem d_L_law_250 : decode b_L_law 250 = .ok (.i2l, 1) := by decide +kernel
theorem d_L_law_251 : decode b_L_law 251 = .ok (.lcmp, 1) := by decide +kernel
theorem d_L_law_252 : decode b_L_law 252 = .ok (.ifCond .eq 5, 3) := by decide +kernel
theorem d_L_law_255 : decode b_L_law 255 = .ok (.iconst 0, 1) := by decide +kernel
theorem d_L_law_256 : decode b_L_law 256 = .ok (.ireturn, 1) := by decide +kernel
theorem d_L_law_257 : decode b_L_law 257 = .ok (.goto 501, 3) := by decide +kernel
theorem d_L_law_260 : decode b_L_law 260 = .ok (.aload_n 1, 1) := by decide +kernel
theorem d_L_law_261 : decode b_L_law 261 = .ok (.aload_n 3, 1) := by decide +kernel
theorem d_L_law_262 : decode b_L_law 262 = .ok (.invokestatic 85, 3) := by decide +kernel
theorem d_L_law_265 : decode b_L_law 265 = .ok (.istore 5, 2) := by decide +kernel
theorem d_L_law_267 : decode b_L_law 267 = .ok (.aload_n 2, 1) := by decide +kernel
theorem d_L_law_268 : decode b_L_law 268 = .ok (.invokevirtual 87, 3) := by decide +kernel
theorem d_L_law_271 : decode b_L_law 271 = .ok (.istore 6, 2) := by decide +kernel
theorem d_L_law_273 : decode b_L_law 273 = .ok (.aload_n 2, 1) := by decide +kernel
theorem d_L_law_274 : decode b_L_law 274 = .ok (.invokevirtual 74, 3) := by decide +kernel
theorem d_L_law_277 : decode b_L_law 277 = .ok (.iload 5, 2) := by decide +kernel
theorem d_L_law_279 : decode b_L_law 279 = .ok (.if_icmp .eq 5, 3) := by decide +kernel
theorem d_L_law_282 : decode b_L_law 282 = .ok (.iconst 0, 1) := by decide +kernel
theorem d_L_law_283 : decode b_L_law 283 = .ok (.ireturn, 1) := by decide +kernel
theorem d_L_law_284 : decode b_L_law 284 = .ok (.iload 5, 2) := by decide +kernel
theorem d_L_law_286 : decode b_L_law 286 = .ok (.ifCond .ne 15, 3) := by decide +kernel
theorem d_L_law_289 : decode b_L_law 289 = .ok (.aload_n 3, 1) := by decide +kernel
theorem d_L_law_290 : decode b_L_law 290 = .ok (.iconst 0, 1) := by decide +kernel
theorem d_L_law_291 : decode b_L_law 291 = .ok (.laload, 1) := by decide +kernel
theorem d_L_law_292 : decode b_L_law 292 = .ok (.iload 6, 2) := by decide +kernel
theorem d_L_law_294 : decode b_L_law 294 = .ok (.i2l, 1) := by decide +kernel
theorem d_L_law_295 : decode b_L_law 295 = .ok (.lcmp, 1) := by decide +kernel
theorem d_L_law_296 : decode b_L_law 296 = .ok (.ifCond .eq 5, 3) := by decide +kernel
theorem d_L_law_299 : decode b_L_law 299 = .ok (.iconst 0, 1) := by decide +kernel
theorem d_L_law_300 : decode b_L_law 300 = .ok (.ireturn, 1) := by decide +kernel
theorem d_L_law_301 : decode b_L_law 301 = .ok (.goto 457, 3) := by decide +kernel
theorem d_L_law_304 : decode b_L_law 304 = .ok (.aload_n 1, 1) := by decide +kernel
theorem d_L_law_305 : decode b_L_law 305 = .ok (.aload_n 0, 1) := by decide +kernel
theorem d_L_law_306 : decode b_L_law 306 = .ok (.iload 4, 2) := by decide +kernel
theorem d_L_law_308 : decode b_L_law 308 = .ok (.iconst 1, 1) := by decide +kernel
theorem d_L_law_309 : decode b_L_law 309 = .ok (.iadd, 1) := by decide +kernel
theorem d_L_law_310 : decode b_L_law 310 = .ok (.iaload, 1) := by decide +kernel
theorem d_L_law_311 : decode b_L_law 311 = .ok (.aload_n 0, 1) := by decide +kernel
theorem d_L_law_312 : decode b_L_law 312 = .ok (.iload 4, 2) := by decide +kernel
theorem d_L_law_314 : decode b_L_law 314 = .ok (.iconst 2, 1) := by decide +kernel
theorem d_L_law_315 : decode b_L_law 315 = .ok (.iadd, 1) := by decide +kernel
theorem d_L_law_316 : decode b_L_law 316 = .ok (.iaload, 1) := by decide +kernel
theorem d_L_law_317 : decode b_L_law 317 = .ok (.aload_n 0, 1) := by decide +kernel
theorem d_L_law_318 : decode b_L_law 318 = .ok (.iload 4, 2) := by decide +kernel
theorem d_L_law_320 : decode b_L_law 320 = .ok (.iconst 3, 1) := by decide +kernel
theorem d_L_law_321 : decode b_L_law 321 = .ok (.iadd, 1) := by decide +kernel
theorem d_L_law_322 : decode b_L_law 322 = .ok (.iaload, 1) := by decide +kernel
theorem d_L_law_323 : decode b_L_law 323 = .ok (.aload_n 3, 1) := by decide +kernel
theorem d_L_law_324 : decode b_L_law 324 = .ok (.invokestatic 88, 3) := by decide +kernel
theorem d_L_law_327 : decode b_L_law 327 = .ok (.istore 5, 2) := by decide +kernel
theorem d_L_law_329 : decode b_L_law 329 = .ok (.aload_n 2, 1) := by decide +kernel
theorem d_L_law_330 : decode b_L_law 330 = .ok (.aload_n 0, 1) := by decide +kernel
theorem d_L_law_331 : decode b_L_law 331 = .ok (.iload 4, 2) := by decide +kernel
theorem d_L_law_333 : decode b_L_law 333 = .ok (.iconst 1, 1) := by decide +kernel
theorem d_L_law_334 : decode b_L_law 334 = .ok (.iadd, 1) := by decide +kernel
theorem d_L_law_335 : decode b_L_law 335 = .ok (.iaload, 1) := by decide +kernel
theorem d_L_law_336 : decode b_L_law 336 = .ok (.aload_n 0, 1) := by decide +kernel
theorem d_L_law_337 : decode b_L_law 337 = .ok (.iload 4, 2) := by decide +kernel
theorem d_L_law_339 : decode b_L_law 339 = .ok (.iconst 2, 1) := by decide +kernel
theorem d_L_law_340 : decode b_L_law 340 = .ok (.iadd, 1) := by decide +kernel
theorem d_L_law_341 : decode b_L_law 341 = .ok (.iaload, 1) := by decide +kernel
theorem d_L_law_342 : decode b_L_law 342 = .ok (.aload_n 0, 1) := by decide +kernel
theorem d_L_law_343 : decode b_L_law 343 = .ok (.iload 4, 2) := by decide +kernel
theorem d_L_law_345 : decode b_L_law 345 = .ok (.iconst 3, 1) := by decide +kernel
theorem d_L_law_346 : decode b_L_law 346 = .ok (.iadd, 1) := by decide +kernel
theorem d_L_law_347 : decode b_L_law 347 = .ok (.iaload, 1) := by decide +kernel
theorem d_L_law_348 : decode b_L_law 348 = .ok (.invokevirtual 91, 3) := by decide +kernel
theorem d_L_law_351 : decode b_L_law 351 = .ok (.istore 6, 2) := by decide +kernel
theorem d_L_law_353 : decode b_L_law 353 = .ok (.aload_n 2, 1) := by decide +kernel
theorem d_L_law_354 : decode b_L_law 354 = .ok (.invokevirtual 74, 3) := by decide +kernel
theorem d_L_law_357 : decode b_L_law 357 = .ok (.iload 5, 2) := by decide +kernel
theorem d_L_law_359 : decode b_L_law 359 = .ok (.if_icmp .eq 5, 3) := by decide +kernel
theorem d_L_law_362 : decode b_L_law 362 = .ok (.iconst 0, 1) := by decide +kernel
theorem d_L_law_363 : decode b_L_law 363 = .ok (.ireturn, 1) := by decide +kernel
theorem d_L_law_364 : decode b_L_law 364 = .ok (.iload 5, 2) := by decide +kernel
theorem d_L_law_366 : decode b_L_law 366 = .ok (.ifCond .ne 15, 3) := by decide +kernel
theorem d_L_law_369 : decode b_L_law 369 = .ok (.aload_n 3, 1) := by decide +kernel
theorem d_L_law_370 : decode b_L_law 370 = .ok (.iconst 0, 1) := by decide +kernel
theorem d_L_law_371 : decode b_L_law 371 = .ok (.laload, 1) := by decide +kernel
theorem d_L_law_372 : decode b_L_law 372 = .ok (.iload 6, 2) := by decide +kernel
theorem d_L_law_374 : decode b_L_law 374 = .ok (.i2l, 1) := by decide +kernel
theorem d_L_law_375 : decode b_L_law 375 = .ok (.lcmp, 1) := by decide +kernel
theorem d_L_law_376 : decode b_L_law 376 = .ok (.ifCond .eq 5, 3) := by decide +kernel
theorem d_L_law_379 : decode b_L_law 379 = .ok (.iconst 0, 1) := by decide +kernel
theorem d_L_law_380 : decode b_L_law 380 = .ok (.ireturn, 1) := by decide +kernel
theorem d_L_law_381 : decode b_L_law 381 = .ok (.goto 377, 3) := by decide +kernel
theorem d_L_law_384 : decode b_L_law 384 = .ok (.aload_n 1, 1) := by decide +kernel
theorem d_L_law_385 : decode b_L_law 385 = .ok (.invokestatic 92, 3) := by decide +kernel
theorem d_L_law_388 : decode b_L_law 388 = .ok (.istore 5, 2) := by decide +kernel
theorem d_L_law_390 : decode b_L_law 390 = .ok (.aload_n 2, 1) := by decide +kernel
theorem d_L_law_391 : decode b_L_law 391 = .ok (.invokevirtual 95, 3) := by decide +kernel
theorem d_L_law_394 : decode b_L_law 394 = .ok (.aload_n 2, 1) := by decide +kernel
theorem d_L_law_395 : decode b_L_law 395 = .ok (.invokevirtual 74, 3) := by decide +kernel
theorem d_L_law_398 : decode b_L_law 398 = .ok (.iload 5, 2) := by decide +kernel
theorem d_L_law_400 : decode b_L_law 400 = .ok (.if_icmp .eq 5, 3) := by decide +kernel
theorem d_L_law_403 : decode b_L_law 403 = .ok (.iconst 0, 1) := by decide +kernel
theorem d_L_law_404 : decode b_L_law 404 = .ok (.ireturn, 1) := by decide +kernel
theorem d_L_law_405 : decode b_L_law 405 = .ok (.goto 353, 3) := by decide +kernel
theorem d_L_law_408 : decode b_L_law 408 = .ok (.aload_n 1, 1) := by decide +kernel
theorem d_L_law_409 : decode b_L_law 409 = .ok (.aload_n 3, 1) := by decide +kernel
theorem d_L_law_410 : decode b_L_law 410 = .ok (.invokestatic 96, 3) := by decide +kernel
theorem d_L_law_413 : decode b_L_law 413 = .ok (.istore 5, 2) := by decide +kernel
theorem d_L_law_415 : decode b_L_law 415 = .ok (.aload_n 2, 1) := by decide +kernel
theorem d_L_law_416 : decode b_L_law 416 = .ok (.invokevirtual 98, 3) := by decide +kernel
theorem d_L_law_419 : decode b_L_law 419 = .ok (.istore 6, 2) := by decide +kernel
theorem d_L_law_421 : decode b_L_law 421 = .ok (.aload_n 2, 1) := by decide +kernel
theorem d_L_law_422 : decode b_L_law 422 = .ok (.invokevirtual 74, 3) := by decide +kernel
theorem d_L_law_425 : decode b_L_law 425 = .ok (.iload 5, 2) := by decide +kernel
theorem d_L_law_427 : decode b_L_law 427 = .ok (.if_icmp .eq 5, 3) := by decide +kernel
theorem d_L_law_430 : decode b_L_law 430 = .ok (.iconst 0, 1) := by decide +kernel
theorem d_L_law_431 : decode b_L_law 431 = .ok (.ireturn, 1) := by decide +kernel
theorem d_L_law_432 : decode b_L_law 432 = .ok (.iload 5, 2) := by decide +kernel
theorem d_L_law_434 : decode b_L_law 434 = .ok (.ifCond .ne 15, 3) := by decide +kernel
theorem d_L_law_437 : decode b_L_law 437 = .ok (.aload_n 3, 1) := by decide +kernel
theorem d_L_law_438 : decode b_L_law 438 = .ok (.iconst 0, 1) := by decide +kernel
theorem d_L_law_439 : decode b_L_law 439 = .ok (.laload, 1) := by decide +kernel
theorem d_L_law_440 : decode b_L_law 440 = .ok (.iload 6, 2) := by decide +kernel
theorem d_L_law_442 : decode b_L_law 442 = .ok (.i2l, 1) := by decide +kernel
theorem d_L_law_443 : decode b_L_law 443 = .ok (.lcmp, 1) := by decide +kernel
theorem d_L_law_444 : decode b_L_law 444 = .ok (.ifCond .eq 5, 3) := by decide +kernel
theorem d_L_law_447 : decode b_L_law 447 = .ok (.iconst 0, 1) := by decide +kernel
theorem d_L_law_448 : decode b_L_law 448 = .ok (.ireturn, 1) := by decide +kernel
theorem d_L_law_449 : decode b_L_law 449 = .ok (.goto 309, 3) := by decide +kernel
theorem d_L_law_452 : decode b_L_law 452 = .ok (.aload_n 1, 1) := by decide +kernel
theorem d_L_law_453 : decode b_L_law 453 = .ok (.aload_n 0, 1) := by decide +kernel
theorem d_L_law_454 : decode b_L_law 454 = .ok (.iload 4, 2) := by decide +kernel
theorem d_L_law_456 : decode b_L_law 456 = .ok (.iconst 1, 1) := by decide +kernel
theorem d_L_law_457 : decode b_L_law 457 = .ok (.iadd, 1) := by decide +kernel
theorem d_L_law_458 : decode b_L_law 458 = .ok (.iaload, 1) := by decide +kernel
theorem d_L_law_459 : decode b_L_law 459 = .ok (.invokestatic 99, 3) := by decide +kernel
theorem d_L_law_462 : decode b_L_law 462 = .ok (.istore 5, 2) := by decide +kernel
theorem d_L_law_464 : decode b_L_law 464 = .ok (.aload_n 2, 1) := by decide +kernel
theorem d_L_law_465 : decode b_L_law 465 = .ok (.aload_n 0, 1) := by decide +kernel
theorem d_L_law_466 : decode b_L_law 466 = .ok (.iload 4, 2) := by decide +kernel
theorem d_L_law_468 : decode b_L_law 468 = .ok (.iconst 1, 1) := by decide +kernel
theorem d_L_law_469 : decode b_L_law 469 = .ok (.iadd, 1) := by decide +kernel
theorem d_L_law_470 : decode b_L_law 470 = .ok (.iaload, 1) := by decide +kernel
theorem d_L_law_471 : decode b_L_law 471 = .ok (.invokevirtual 101, 3) := by decide +kernel
theorem d_L_law_474 : decode b_L_law 474 = .ok (.aload_n 2, 1) := by decide +kernel
theorem d_L_law_475 : decode b_L_law 475 = .ok (.invokevirtual 74, 3) := by decide +kernel
theorem d_L_law_478 : decode b_L_law 478 = .ok (.iload 5, 2) := by decide +kernel
theorem d_L_law_480 : decode b_L_law 480 = .ok (.if_icmp .eq 5, 3) := by decide +kernel
theorem d_L_law_483 : decode b_L_law 483 = .ok (.iconst 0, 1) := by decide +kernel
theorem d_L_law_484 : decode b_L_law 484 = .ok (.ireturn, 1) := by decide +kernel
theorem d_L_law_485 : decode b_L_law 485 = .ok (.goto 273, 3) := by decide +kernel
theorem d_L_law_488 : decode b_L_law 488 = .ok (.aload_n 1, 1) := by decide +kernel
theorem d_L_law_489 : decode b_L_law 489 = .ok (.aload_n 0, 1) := by decide +kernel
theorem d_L_law_490 : decode b_L_law 490 = .ok (.iload 4, 2) := by decide +kernel
theorem d_L_law_492 : decode b_L_law 492 = .ok (.iconst 1, 1) := by decide +kernel
theorem d_L_law_493 : decode b_L_law 493 = .ok (.iadd, 1) := by decide +kernel
theorem d_L_law_494 : decode b_L_law 494 = .ok (.iaload, 1) := by decide +kernel
theorem d_L_law_495 : decode b_L_law 495 = .ok (.aload_n 3, 1) := by decide +kernel
theorem d_L_law_496 : decode b_L_law 496 = .ok (.invokestatic 102, 3) := by decide +kernel
theorem d_L_law_499 : decode b_L_law 499 = .ok (.istore 5, 2) := by decide +kernel
theorem d_L_law_501 : decode b_L_law 501 = .ok (.aload_n 2, 1) := by decide +kernel
theorem d_L_law_502 : decode b_L_law 502 = .ok (.aload_n 0, 1) := by decide +kernel
theorem d_L_law_503 : decode b_L_law 503 = .ok (.iload 4, 2) := by decide +kernel
theorem d_L_law_505 : decode b_L_law 505 = .ok (.iconst 1, 1) := by decide +kernel
theorem d_L_law_506 : decode b_L_law 506 = .ok (.iadd, 1) := by decide +kernel
theorem d_L_law_507 : decode b_L_law 507 = .ok (.iaload, 1) := by decide +kernel
theorem d_L_law_508 : decode b_L_law 508 = .ok (.invokevirtual 105, 3) := by decide +kernel
theorem d_L_law_511 : decode b_L_law 511 = .ok (.istore 6, 2) := by decide +kernel
theorem d_L_law_513 : decode b_L_law 513 = .ok (.aload_n 2, 1) := by decide +kernel
theorem d_L_law_514 : decode b_L_law 514 = .ok (.invokevirtual 74, 3) := by decide +kernel
theorem d_L_law_517 : decode b_L_law 517 = .ok (.iload 5, 2) := by decide +kernel
theorem d_L_law_519 : decode b_L_law 519 = .ok (.if_icmp .eq 5, 3) := by decide +kernel
theorem d_L_law_522 : decode b_L_law 522 = .ok (.iconst 0, 1) := by decide +kernel
theorem d_L_law_523 : decode b_L_law 523 = .ok (.ireturn, 1) := by decide +kernel
theorem d_L_law_524 : decode b_L_law 524 = .ok (.iload 5, 2) := by decide +kernel
theorem d_L_law_526 : decode b_L_law 526 = .ok (.ifCond .ne 15, 3) := by decide +kernel
theorem d_L_law_529 : decode b_L_law 529 = .ok (.aload_n 3, 1) := by decide +kernel
theorem d_L_law_530 : decode b_L_law 530 = .ok (.iconst 0, 1) := by decide +kernel
theorem d_L_law_531 : decode b_L_law 531 = .ok (.laload, 1) := by decide +kernel
theorem d_L_law_532 : decode b_L_law 532 = .ok (.iload 6, 2) := by decide +kernel
theorem d_L_law_534 : decode b_L_law 534 = .ok (.i2l, 1) := by decide +kernel
theorem d_L_law_535 : decode b_L_law 535 = .ok (.lcmp, 1) := by decide +kernel
theorem d_L_law_536 : decode b_L_law 536 = .ok (.ifCond .eq 5, 3) := by decide +kernel
theorem d_L_law_539 : decode b_L_law 539 = .ok (.iconst 0, 1) := by decide +kernel
theorem d_L_law_540 : decode b_L_law 540 = .ok (.ireturn, 1) := by decide +kernel
theorem d_L_law_541 : decode b_L_law 541 = .ok (.goto 217, 3) := by decide +kernel
theorem d_L_law_544 : decode b_L_law 544 = .ok (.aload_n 1, 1) := by decide +kernel
theorem d_L_law_545 : decode b_L_law 545 = .ok (.aload_n 0, 1) := by decide +kernel
theorem d_L_law_546 : decode b_L_law 546 = .ok (.iload 4, 2) := by decide +kernel
theorem d_L_law_548 : decode b_L_law 548 = .ok (.iconst 1, 1) := by decide +kernel
theorem d_L_law_549 : decode b_L_law 549 = .ok (.iadd, 1) := by decide +kernel
theorem d_L_law_550 : decode b_L_law 550 = .ok (.iaload, 1) := by decide +kernel
theorem d_L_law_551 : decode b_L_law 551 = .ok (.aload_n 0, 1) := by decide +kernel
theorem d_L_law_552 : decode b_L_law 552 = .ok (.iload 4, 2) := by decide +kernel
theorem d_L_law_554 : decode b_L_law 554 = .ok (.iconst 2, 1) := by decide +kernel
theorem d_L_law_555 : decode b_L_law 555 = .ok (.iadd, 1) := by decide +kernel
theorem d_L_law_556 : decode b_L_law 556 = .ok (.iaload, 1) := by decide +kernel
theorem d_L_law_557 : decode b_L_law 557 = .ok (.invokestatic 106, 3) := by decide +kernel
theorem d_L_law_560 : decode b_L_law 560 = .ok (.istore 5, 2) := by decide +kernel
theorem d_L_law_562 : decode b_L_law 562 = .ok (.aload_n 2, 1) := by decide +kernel
theorem d_L_law_563 : decode b_L_law 563 = .ok (.aload_n 0, 1) := by decide +kernel
theorem d_L_law_564 : decode b_L_law 564 = .ok (.iload 4, 2) := by decide +kernel
theorem d_L_law_566 : decode b_L_law 566 = .ok (.iconst 1, 1) := by decide +kernel
theorem d_L_law_567 : decode b_L_law 567 = .ok (.iadd, 1) := by decide +kernel
theorem d_L_law_568 : decode b_L_law 568 = .ok (.iaload, 1) := by decide +kernel
theorem d_L_law_569 : decode b_L_law 569 = .ok (.aload_n 0, 1) := by decide +kernel
theorem d_L_law_570 : decode b_L_law 570 = .ok (.iload 4, 2) := by decide +kernel
theorem d_L_law_572 : decode b_L_law 572 = .ok (.iconst 2, 1) := by decide +kernel
theorem d_L_law_573 : decode b_L_law 573 = .ok (.iadd, 1) := by decide +kernel
theorem d_L_law_574 : decode b_L_law 574 = .ok (.iaload, 1) := by decide +kernel
theorem d_L_law_575 : decode b_L_law 575 = .ok (.invokevirtual 109, 3) := by decide +kernel
theorem d_L_law_578 : decode b_L_law 578 = .ok (.aload_n 2, 1) := by decide +kernel
theorem d_L_law_579 : decode b_L_law 579 = .ok (.invokevirtual 74, 3) := by decide +kernel
theorem d_L_law_582 : decode b_L_law 582 = .ok (.iload 5, 2) := by decide +kernel
theorem d_L_law_584 : decode b_L_law 584 = .ok (.if_icmp .eq 5, 3) := by decide +kernel
theorem d_L_law_587 : decode b_L_law 587 = .ok (.iconst 0, 1) := by decide +kernel
theorem d_L_law_588 : decode b_L_law 588 = .ok (.ireturn, 1) := by decide +kernel
theorem d_L_law_589 : decode b_L_law 589 = .ok (.goto 169, 3) := by decide +kernel
theorem d_L_law_592 : decode b_L_law 592 = .ok (.aload_n 1, 1) := by decide +kernel
theorem d_L_law_593 : decode b_L_law 593 = .ok (.invokestatic 110, 3) := by decide +kernel
theorem d_L_law_596 : decode b_L_law 596 = .ok (.istore 5, 2) := by decide +kernel
theorem d_L_law_598 : decode b_L_law 598 = .ok (.aload_n 2, 1) := by decide +kernel
theorem d_L_law_599 : decode b_L_law 599 = .ok (.invokevirtual 112, 3) := by decide +kernel
theorem d_L_law_602 : decode b_L_law 602 = .ok (.aload_n 2, 1) := by decide +kernel
theorem d_L_law_603 : decode b_L_law 603 = .ok (.invokevirtual 74, 3) := by decide +kernel
theorem d_L_law_606 : decode b_L_law 606 = .ok (.iload 5, 2) := by decide +kernel
theorem d_L_law_608 : decode b_L_law 608 = .ok (.if_icmp .eq 5, 3) := by decide +kernel
theorem d_L_law_611 : decode b_L_law 611 = .ok (.iconst 0, 1) := by decide +kernel
theorem d_L_law_612 : decode b_L_law 612 = .ok (.ireturn, 1) := by decide +kernel
theorem d_L_law_613 : decode b_L_law 613 = .ok (.goto 145, 3) := by decide +kernel
theorem d_L_law_616 : decode b_L_law 616 = .ok (.aload_n 1, 1) := by decide +kernel
theorem d_L_law_617 : decode b_L_law 617 = .ok (.invokestatic 113, 3) := by decide +kernel
theorem d_L_law_620 : decode b_L_law 620 = .ok (.istore 5, 2) := by decide +kernel
theorem d_L_law_622 : decode b_L_law 622 = .ok (.aload_n 2, 1) := by decide +kernel
theorem d_L_law_623 : decode b_L_law 623 = .ok (.invokevirtual 115, 3) := by decide +kernel
theorem d_L_law_626 : decode b_L_law 626 = .ok (.aload_n 2, 1) := by decide +kernel
theorem d_L_law_627 : decode b_L_law 627 = .ok (.invokevirtual 74, 3) := by decide +kernel
theorem d_L_law_630 : decode b_L_law 630 = .ok (.iload 5, 2) := by decide +kernel
theorem d_L_law_632 : decode b_L_law 632 = .ok (.if_icmp .eq 5, 3) := by decide +kernel
theorem d_L_law_635 : decode b_L_law 635 = .ok (.iconst 0, 1) := by decide +kernel
theorem d_L_law_636 : decode b_L_law 636 = .ok (.ireturn, 1) := by decide +kernel
theorem d_L_law_637 : decode b_L_law 637 = .ok (.goto 121, 3) := by decide +kernel
theorem d_L_law_640 : decode b_L_law 640 = .ok (.aload_n 1, 1) := by decide +kernel
theorem d_L_law_641 : decode b_L_law 641 = .ok (.aload_n 0, 1) := by decide +kernel
theorem d_L_law_642 : decode b_L_law 642 = .ok (.iload 4, 2) := by decide +kernel
theorem d_L_law_644 : decode b_L_law 644 = .ok (.iconst 1, 1) := by decide +kernel
theorem d_L_law_645 : decode b_L_law 645 = .ok (.iadd, 1) := by decide +kernel
theorem d_L_law_646 : decode b_L_law 646 = .ok (.iaload, 1) := by decide +kernel
theorem d_L_law_647 : decode b_L_law 647 = .ok (.invokevirtual 116, 3) := by decide +kernel
theorem d_L_law_650 : decode b_L_law 650 = .ok (.aload_n 2, 1) := by decide +kernel
theorem d_L_law_651 : decode b_L_law 651 = .ok (.aload_n 0, 1) := by decide +kernel
theorem d_L_law_652 : decode b_L_law 652 = .ok (.iload 4, 2) := by decide +kernel
theorem d_L_law_654 : decode b_L_law 654 = .ok (.iconst 1, 1) := by decide +kernel
theorem d_L_law_655 : decode b_L_law 655 = .ok (.iadd, 1) := by decide +kernel
theorem d_L_law_656 : decode b_L_law 656 = .ok (.iaload, 1) := by decide +kernel
theorem d_L_law_657 : decode b_L_law 657 = .ok (.invokevirtual 119, 3) := by decide +kernel
theorem d_L_law_660 : decode b_L_law 660 = .ok (.if_icmp .eq 98, 3) := by decide +kernel
theorem d_L_law_663 : decode b_L_law 663 = .ok (.iconst 0, 1) := by decide +kernel
theorem d_L_law_664 : decode b_L_law 664 = .ok (.ireturn, 1) := by decide +kernel
theorem d_L_law_665 : decode b_L_law 665 = .ok (.aload_n 1, 1) := by decide +kernel
theorem d_L_law_666 : decode b_L_law 666 = .ok (.aload_n 0, 1) := by decide +kernel
theorem d_L_law_667 : decode b_L_law 667 = .ok (.iload 4, 2) := by decide +kernel
theorem d_L_law_669 : decode b_L_law 669 = .ok (.iconst 1, 1) := by decide +kernel
theorem d_L_law_670 : decode b_L_law 670 = .ok (.iadd, 1) := by decide +kernel
theorem d_L_law_671 : decode b_L_law 671 = .ok (.iaload, 1) := by decide +kernel
theorem d_L_law_672 : decode b_L_law 672 = .ok (.aload_n 0, 1) := by decide +kernel
theorem d_L_law_673 : decode b_L_law 673 = .ok (.iload 4, 2) := by decide +kernel
theorem d_L_law_675 : decode b_L_law 675 = .ok (.iconst 2, 1) := by decide +kernel
theorem d_L_law_676 : decode b_L_law 676 = .ok (.iadd, 1) := by decide +kernel
theorem d_L_law_677 : decode b_L_law 677 = .ok (.iaload, 1) := by decide +kernel
theorem d_L_law_678 : decode b_L_law 678 = .ok (.aload_n 3, 1) := by decide +kernel
theorem d_L_law_679 : decode b_L_law 679 = .ok (.invokestatic 120, 3) := by decide +kernel
theorem d_L_law_682 : decode b_L_law 682 = .ok (.istore 5, 2) := by decide +kernel
theorem d_L_law_684 : decode b_L_law 684 = .ok (.aload_n 2, 1) := by decide +kernel
theorem d_L_law_685 : decode b_L_law 685 = .ok (.aload_n 0, 1) := by decide +kernel
theorem d_L_law_686 : decode b_L_law 686 = .ok (.iload 4, 2) := by decide +kernel
theorem d_L_law_688 : decode b_L_law 688 = .ok (.iconst 1, 1) := by decide +kernel
theorem d_L_law_689 : decode b_L_law 689 = .ok (.iadd, 1) := by decide +kernel
theorem d_L_law_690 : decode b_L_law 690 = .ok (.iaload, 1) := by decide +kernel
theorem d_L_law_691 : decode b_L_law 691 = .ok (.aload_n 0, 1) := by decide +kernel
theorem d_L_law_692 : decode b_L_law 692 = .ok (.iload 4, 2) := by decide +kernel
theorem d_L_law_694 : decode b_L_law 694 = .ok (.iconst 2, 1) := by decide +kernel
theorem d_L_law_695 : decode b_L_law 695 = .ok (.iadd, 1) := by decide +kernel
theorem d_L_law_696 : decode b_L_law 696 = .ok (.iaload, 1) := by decide +kernel
theorem d_L_law_697 : decode b_L_law 697 = .ok (.invokevirtual 122, 3) := by decide +kernel
theorem d_L_law_700 : decode b_L_law 700 = .ok (.istore 6, 2) := by decide +kernel
theorem d_L_law_702 : decode b_L_law 702 = .ok (.aload_n 2, 1) := by decide +kernel
theorem d_L_law_703 : decode b_L_law 703 = .ok (.invokevirtual 74, 3) := by decide +kernel
theorem d_L_law_706 : decode b_L_law 706 = .ok (.iload 5, 2) := by decide +kernel
theorem d_L_law_708 : decode b_L_law 708 = .ok (.if_icmp .eq 5, 3) := by decide +kernel
theorem d_L_law_711 : decode b_L_law 711 = .ok (.iconst 0, 1) := by decide +kernel
theorem d_L_law_712 : decode b_L_law 712 = .ok (.ireturn, 1) := by decide +kernel
theorem d_L_law_713 : decode b_L_law 713 = .ok (.iload 5, 2) := by decide +kernel
theorem d_L_law_715 : decode b_L_law 715 = .ok (.ifCond .ne 15, 3) := by decide +kernel
theorem d_L_law_718 : decode b_L_law 718 = .ok (.aload_n 3, 1) := by decide +kernel
theorem d_L_law_719 : decode b_L_law 719 = .ok (.iconst 0, 1) := by decide +kernel
theorem d_L_law_720 : decode b_L_law 720 = .ok (.laload, 1) := by decide +kernel
theorem d_L_law_721 : decode b_L_law 721 = .ok (.iload 6, 2) := by decide +kernel
theorem d_L_law_723 : decode b_L_law 723 = .ok (.i2l, 1) := by decide +kernel
theorem d_L_law_724 : decode b_L_law 724 = .ok (.lcmp, 1) := by decide +kernel
theorem d_L_law_725 : decode b_L_law 725 = .ok (.ifCond .eq 5, 3) := by decide +kernel
theorem d_L_law_728 : decode b_L_law 728 = .ok (.iconst 0, 1) := by decide +kernel
theorem d_L_law_729 : decode b_L_law 729 = .ok (.ireturn, 1) := by decide +kernel
theorem d_L_law_730 : decode b_L_law 730 = .ok (.goto 28, 3) := by decide +kernel
theorem d_L_law_733 : decode b_L_law 733 = .ok (.aload_n 1, 1) := by decide +kernel
theorem d_L_law_734 : decode b_L_law 734 = .ok (.aload_n 0, 1) := by decide +kernel
theorem d_L_law_735 : decode b_L_law 735 = .ok (.iload 4, 2) := by decide +kernel
theorem d_L_law_737 : decode b_L_law 737 = .ok (.iconst 1, 1) := by decide +kernel
theorem d_L_law_738 : decode b_L_law 738 = .ok (.iadd, 1) := by decide +kernel
theorem d_L_law_739 : decode b_L_law 739 = .ok (.iaload, 1) := by decide +kernel
theorem d_L_law_740 : decode b_L_law 740 = .ok (.invokevirtual 123, 3) := by decide +kernel
theorem d_L_law_743 : decode b_L_law 743 = .ok (.aload_n 2, 1) := by decide +kernel
theorem d_L_law_744 : decode b_L_law 744 = .ok (.aload_n 0, 1) := by decide +kernel
theorem d_L_law_745 : decode b_L_law 745 = .ok (.iload 4, 2) := by decide +kernel
theorem d_L_law_747 : decode b_L_law 747 = .ok (.iconst 1, 1) := by decide +kernel
theorem d_L_law_748 : decode b_L_law 748 = .ok (.iadd, 1) := by decide +kernel
theorem d_L_law_749 : decode b_L_law 749 = .ok (.iaload, 1) := by decide +kernel
theorem d_L_law_750 : decode b_L_law 750 = .ok (.invokevirtual 126, 3) := by decide +kernel
theorem d_L_law_753 : decode b_L_law 753 = .ok (.if_icmp .eq 5, 3) := by decide +kernel
theorem d_L_law_756 : decode b_L_law 756 = .ok (.iconst 0, 1) := by decide +kernel
theorem d_L_law_757 : decode b_L_law 757 = .ok (.ireturn, 1) := by decide +kernel
theorem d_L_law_758 : decode b_L_law 758 = .ok (.iinc 4 4, 3) := by decide +kernel
theorem d_L_law_761 : decode b_L_law 761 = .ok (.goto (-738), 3) := by decide +kernel
theorem d_L_law_764 : decode b_L_law 764 = .ok (.iconst 1, 1) := by decide +kernel
theorem d_L_law_765 : decode b_L_law 765 = .ok (.ireturn, 1) := by decide +kernel
