theorem d_T_never_0 : decode b_T_never 0 = .ok (.aload_n 0, 1) := by decide +kernel
theorem d_T_never_1 : decode b_T_never 1 = .ok (.invokevirtual 36, 3) := by decide +kernel
theorem d_T_never_4 : decode b_T_never 4 = .ok (.aload_n 0, 1) := by decide +kernel
theorem d_T_never_5 : decode b_T_never 5 = .ok (.invokevirtual 101, 3) := by decide +kernel
theorem d_T_never_8 : decode b_T_never 8 = .ok (.aload_n 0, 1) := by decide +kernel
theorem d_T_never_9 : decode b_T_never 9 = .ok (.dup, 1) := by decide +kernel
theorem d_T_never_10 : decode b_T_never 10 = .ok (.getfield 58, 3) := by decide +kernel
theorem d_T_never_13 : decode b_T_never 13 = .ok (.iconst 1, 1) := by decide +kernel
theorem d_T_never_14 : decode b_T_never 14 = .ok (.iadd, 1) := by decide +kernel
theorem d_T_never_15 : decode b_T_never 15 = .ok (.putfield 58, 3) := by decide +kernel
theorem d_T_never_18 : decode b_T_never 18 = .ok (.return_, 1) := by decide +kernel
theorem d_T_top_0 : decode b_T_top 0 = .ok (.iload_n 1, 1) := by decide +kernel
theorem d_T_top_1 : decode b_T_top 1 = .ok (.ifCond .lt 11, 3) := by decide +kernel
theorem d_T_top_4 : decode b_T_top 4 = .ok (.iload_n 1, 1) := by decide +kernel
theorem d_T_top_5 : decode b_T_top 5 = .ok (.aload_n 0, 1) := by decide +kernel
theorem d_T_top_6 : decode b_T_top 6 = .ok (.getfield 39, 3) := by decide +kernel
theorem d_T_top_9 : decode b_T_top 9 = .ok (.if_icmp .lt 5, 3) := by decide +kernel
theorem d_T_top_12 : decode b_T_top 12 = .ok (.iconst (-1), 1) := by decide +kernel
theorem d_T_top_13 : decode b_T_top 13 = .ok (.ireturn, 1) := by decide +kernel
theorem d_T_top_14 : decode b_T_top 14 = .ok (.aload_n 0, 1) := by decide +kernel
theorem d_T_top_15 : decode b_T_top 15 = .ok (.getfield 9, 3) := by decide +kernel
theorem d_T_top_18 : decode b_T_top 18 = .ok (.aload_n 0, 1) := by decide +kernel
theorem d_T_top_19 : decode b_T_top 19 = .ok (.getfield 39, 3) := by decide +kernel
theorem d_T_top_22 : decode b_T_top 22 = .ok (.iconst 1, 1) := by decide +kernel
theorem d_T_top_23 : decode b_T_top 23 = .ok (.isub, 1) := by decide +kernel
theorem d_T_top_24 : decode b_T_top 24 = .ok (.iload_n 1, 1) := by decide +kernel
theorem d_T_top_25 : decode b_T_top 25 = .ok (.isub, 1) := by decide +kernel
theorem d_T_top_26 : decode b_T_top 26 = .ok (.iaload, 1) := by decide +kernel
theorem d_T_top_27 : decode b_T_top 27 = .ok (.ireturn, 1) := by decide +kernel
theorem d_T_frame_0 : decode b_T_frame 0 = .ok (.aload_n 0, 1) := by decide +kernel
theorem d_T_frame_1 : decode b_T_frame 1 = .ok (.iload_n 1, 1) := by decide +kernel
theorem d_T_frame_2 : decode b_T_frame 2 = .ok (.invokevirtual 95, 3) := by decide +kernel
theorem d_T_frame_5 : decode b_T_frame 5 = .ok (.istore_n 3, 1) := by decide +kernel
theorem d_T_frame_6 : decode b_T_frame 6 = .ok (.iload_n 2, 1) := by decide +kernel
theorem d_T_frame_7 : decode b_T_frame 7 = .ok (.tableswitch 86 0 5 #[37, 44, 51, 58, 65, 80], 37) := by decide +kernel
theorem d_T_frame_44 : decode b_T_frame 44 = .ok (.aload_n 0, 1) := by decide +kernel
theorem d_T_frame_45 : decode b_T_frame 45 = .ok (.getfield 13, 3) := by decide +kernel
theorem d_T_frame_48 : decode b_T_frame 48 = .ok (.iload_n 3, 1) := by decide +kernel
theorem d_T_frame_49 : decode b_T_frame 49 = .ok (.iaload, 1) := by decide +kernel
theorem d_T_frame_50 : decode b_T_frame 50 = .ok (.ireturn, 1) := by decide +kernel
theorem d_T_frame_51 : decode b_T_frame 51 = .ok (.aload_n 0, 1) := by decide +kernel
theorem d_T_frame_52 : decode b_T_frame 52 = .ok (.getfield 16, 3) := by decide +kernel
theorem d_T_frame_55 : decode b_T_frame 55 = .ok (.iload_n 3, 1) := by decide +kernel
theorem d_T_frame_56 : decode b_T_frame 56 = .ok (.iaload, 1) := by decide +kernel
theorem d_T_frame_57 : decode b_T_frame 57 = .ok (.ireturn, 1) := by decide +kernel
theorem d_T_frame_58 : decode b_T_frame 58 = .ok (.aload_n 0, 1) := by decide +kernel
theorem d_T_frame_59 : decode b_T_frame 59 = .ok (.getfield 19, 3) := by decide +kernel
theorem d_T_frame_62 : decode b_T_frame 62 = .ok (.iload_n 3, 1) := by decide +kernel
theorem d_T_frame_63 : decode b_T_frame 63 = .ok (.iaload, 1) := by decide +kernel
theorem d_T_frame_64 : decode b_T_frame 64 = .ok (.ireturn, 1) := by decide +kernel
theorem d_T_frame_65 : decode b_T_frame 65 = .ok (.aload_n 0, 1) := by decide +kernel
theorem d_T_frame_66 : decode b_T_frame 66 = .ok (.getfield 22, 3) := by decide +kernel
theorem d_T_frame_69 : decode b_T_frame 69 = .ok (.iload_n 3, 1) := by decide +kernel
theorem d_T_frame_70 : decode b_T_frame 70 = .ok (.iaload, 1) := by decide +kernel
theorem d_T_frame_71 : decode b_T_frame 71 = .ok (.ireturn, 1) := by decide +kernel
theorem d_T_frame_72 : decode b_T_frame 72 = .ok (.aload_n 0, 1) := by decide +kernel
theorem d_T_frame_73 : decode b_T_frame 73 = .ok (.getfield 25, 3) := by decide +kernel
theorem d_T_frame_76 : decode b_T_frame 76 = .ok (.iload_n 3, 1) := by decide +kernel
theorem d_T_frame_77 : decode b_T_frame 77 = .ok (.baload, 1) := by decide +kernel
theorem d_T_frame_78 : decode b_T_frame 78 = .ok (.ifCond .eq 7, 3) := by decide +kernel
theorem d_T_frame_81 : decode b_T_frame 81 = .ok (.iconst 1, 1) := by decide +kernel
theorem d_T_frame_82 : decode b_T_frame 82 = .ok (.goto 4, 3) := by decide +kernel
theorem d_T_frame_85 : decode b_T_frame 85 = .ok (.iconst 0, 1) := by decide +kernel
theorem d_T_frame_86 : decode b_T_frame 86 = .ok (.ireturn, 1) := by decide +kernel
theorem d_T_frame_87 : decode b_T_frame 87 = .ok (.aload_n 0, 1) := by decide +kernel
theorem d_T_frame_88 : decode b_T_frame 88 = .ok (.iload_n 3, 1) := by decide +kernel
theorem d_T_frame_89 : decode b_T_frame 89 = .ok (.invokevirtual 98, 3) := by decide +kernel
theorem d_T_frame_92 : decode b_T_frame 92 = .ok (.ireturn, 1) := by decide +kernel
theorem d_T_frame_93 : decode b_T_frame 93 = .ok (.new 76, 3) := by decide +kernel
theorem d_T_frame_96 : decode b_T_frame 96 = .ok (.dup, 1) := by decide +kernel
theorem d_T_frame_97 : decode b_T_frame 97 = .ok (.invokespecial 78, 3) := by decide +kernel
theorem d_T_frame_100 : decode b_T_frame 100 = .ok (.athrow, 1) := by decide +kernel
theorem d_T_count_0 : decode b_T_count 0 = .ok (.iload_n 1, 1) := by decide +kernel
theorem d_T_count_1 : decode b_T_count 1 = .ok (.tableswitch 51 0 3 #[31, 36, 41, 46], 31) := by decide +kernel
theorem d_T_count_32 : decode b_T_count 32 = .ok (.aload_n 0, 1) := by decide +kernel
theorem d_T_count_33 : decode b_T_count 33 = .ok (.getfield 39, 3) := by decide +kernel
theorem d_T_count_36 : decode b_T_count 36 = .ok (.ireturn, 1) := by decide +kernel
theorem d_T_count_37 : decode b_T_count 37 = .ok (.aload_n 0, 1) := by decide +kernel
theorem d_T_count_38 : decode b_T_count 38 = .ok (.getfield 79, 3) := by decide +kernel
theorem d_T_count_41 : decode b_T_count 41 = .ok (.ireturn, 1) := by decide +kernel
theorem d_T_count_42 : decode b_T_count 42 = .ok (.aload_n 0, 1) := by decide +kernel
theorem d_T_count_43 : decode b_T_count 43 = .ok (.getfield 104, 3) := by decide +kernel
theorem d_T_count_46 : decode b_T_count 46 = .ok (.ireturn, 1) := by decide +kernel
theorem d_T_count_47 : decode b_T_count 47 = .ok (.aload_n 0, 1) := by decide +kernel
theorem d_T_count_48 : decode b_T_count 48 = .ok (.getfield 58, 3) := by decide +kernel
theorem d_T_count_51 : decode b_T_count 51 = .ok (.ireturn, 1) := by decide +kernel
theorem d_T_count_52 : decode b_T_count 52 = .ok (.iconst (-1), 1) := by decide +kernel
theorem d_T_count_53 : decode b_T_count 53 = .ok (.ireturn, 1) := by decide +kernel
theorem d_T_startAnew_0 : decode b_T_startAnew 0 = .ok (.aload_n 0, 1) := by decide +kernel
theorem d_T_startAnew_1 : decode b_T_startAnew 1 = .ok (.iconst 0, 1) := by decide +kernel
theorem d_T_startAnew_2 : decode b_T_startAnew 2 = .ok (.putfield 39, 3) := by decide +kernel
theorem d_T_startAnew_5 : decode b_T_startAnew 5 = .ok (.aload_n 0, 1) := by decide +kernel
theorem d_T_startAnew_6 : decode b_T_startAnew 6 = .ok (.iconst 0, 1) := by decide +kernel
theorem d_T_startAnew_7 : decode b_T_startAnew 7 = .ok (.putfield 104, 3) := by decide +kernel
theorem d_T_startAnew_10 : decode b_T_startAnew 10 = .ok (.aload_n 0, 1) := by decide +kernel
theorem d_T_startAnew_11 : decode b_T_startAnew 11 = .ok (.iconst 0, 1) := by decide +kernel
theorem d_T_startAnew_12 : decode b_T_startAnew 12 = .ok (.putfield 79, 3) := by decide +kernel
theorem d_T_startAnew_15 : decode b_T_startAnew 15 = .ok (.aload_n 0, 1) := by decide +kernel
theorem d_T_startAnew_16 : decode b_T_startAnew 16 = .ok (.iconst 0, 1) := by decide +kernel
theorem d_T_startAnew_17 : decode b_T_startAnew 17 = .ok (.putfield 58, 3) := by decide +kernel
theorem d_T_startAnew_20 : decode b_T_startAnew 20 = .ok (.aload_n 0, 1) := by decide +kernel
theorem d_T_startAnew_21 : decode b_T_startAnew 21 = .ok (.iconst 0, 1) := by decide +kernel
theorem d_T_startAnew_22 : decode b_T_startAnew 22 = .ok (.iconst 0, 1) := by decide +kernel
theorem d_T_startAnew_23 : decode b_T_startAnew 23 = .ok (.iload_n 1, 1) := by decide +kernel
theorem d_T_startAnew_24 : decode b_T_startAnew 24 = .ok (.iconst 0, 1) := by decide +kernel
theorem d_T_startAnew_25 : decode b_T_startAnew 25 = .ok (.invokevirtual 85, 3) := by decide +kernel
theorem d_T_startAnew_28 : decode b_T_startAnew 28 = .ok (.return_, 1) := by decide +kernel
theorem d_T_addFrame_0 : decode b_T_addFrame 0 = .ok (.aload_n 0, 1) := by decide +kernel
theorem d_T_addFrame_1 : decode b_T_addFrame 1 = .ok (.getfield 13, 3) := by decide +kernel
theorem d_T_addFrame_4 : decode b_T_addFrame 4 = .ok (.aload_n 0, 1) := by decide +kernel
theorem d_T_addFrame_5 : decode b_T_addFrame 5 = .ok (.getfield 79, 3) := by decide +kernel
theorem d_T_addFrame_8 : decode b_T_addFrame 8 = .ok (.iload_n 1, 1) := by decide +kernel
theorem d_T_addFrame_9 : decode b_T_addFrame 9 = .ok (.iastore, 1) := by decide +kernel
theorem d_T_addFrame_10 : decode b_T_addFrame 10 = .ok (.aload_n 0, 1) := by decide +kernel
theorem d_T_addFrame_11 : decode b_T_addFrame 11 = .ok (.getfield 16, 3) := by decide +kernel
theorem d_T_addFrame_14 : decode b_T_addFrame 14 = .ok (.aload_n 0, 1) := by decide +kernel
theorem d_T_addFrame_15 : decode b_T_addFrame 15 = .ok (.getfield 79, 3) := by decide +kernel
theorem d_T_addFrame_18 : decode b_T_addFrame 18 = .ok (.iload_n 2, 1) := by decide +kernel
theorem d_T_addFrame_19 : decode b_T_addFrame 19 = .ok (.iastore, 1) := by decide +kernel
theorem d_T_addFrame_20 : decode b_T_addFrame 20 = .ok (.aload_n 0, 1) := by decide +kernel
theorem d_T_addFrame_21 : decode b_T_addFrame 21 = .ok (.getfield 19, 3) := by decide +kernel
theorem d_T_addFrame_24 : decode b_T_addFrame 24 = .ok (.aload_n 0, 1) := by decide +kernel
theorem d_T_addFrame_25 : decode b_T_addFrame 25 = .ok (.getfield 79, 3) := by decide +kernel
theorem d_T_addFrame_28 : decode b_T_addFrame 28 = .ok (.iload_n 3, 1) := by decide +kernel
theorem d_T_addFrame_29 : decode b_T_addFrame 29 = .ok (.iastore, 1) := by decide +kernel
theorem d_T_addFrame_30 : decode b_T_addFrame 30 = .ok (.aload_n 0, 1) := by decide +kernel
theorem d_T_addFrame_31 : decode b_T_addFrame 31 = .ok (.getfield 22, 3) := by decide +kernel
theorem d_T_addFrame_34 : decode b_T_addFrame 34 = .ok (.aload_n 0, 1) := by decide +kernel
theorem d_T_addFrame_35 : decode b_T_addFrame 35 = .ok (.getfield 79, 3) := by decide +kernel
theorem d_T_addFrame_38 : decode b_T_addFrame 38 = .ok (.iload 4, 2) := by decide +kernel
theorem d_T_addFrame_40 : decode b_T_addFrame 40 = .ok (.iastore, 1) := by decide +kernel
theorem d_T_addFrame_41 : decode b_T_addFrame 41 = .ok (.aload_n 0, 1) := by decide +kernel
theorem d_T_addFrame_42 : decode b_T_addFrame 42 = .ok (.getfield 25, 3) := by decide +kernel
theorem d_T_addFrame_45 : decode b_T_addFrame 45 = .ok (.aload_n 0, 1) := by decide +kernel
theorem d_T_addFrame_46 : decode b_T_addFrame 46 = .ok (.getfield 79, 3) := by decide +kernel
theorem d_T_addFrame_49 : decode b_T_addFrame 49 = .ok (.iconst 0, 1) := by decide +kernel
theorem d_T_addFrame_50 : decode b_T_addFrame 50 = .ok (.bastore, 1) := by decide +kernel
theorem d_T_addFrame_51 : decode b_T_addFrame 51 = .ok (.aload_n 0, 1) := by decide +kernel
theorem d_T_addFrame_52 : decode b_T_addFrame 52 = .ok (.dup, 1) := by decide +kernel
theorem d_T_addFrame_53 : decode b_T_addFrame 53 = .ok (.getfield 79, 3) := by decide +kernel
theorem d_T_addFrame_56 : decode b_T_addFrame 56 = .ok (.iconst 1, 1) := by decide +kernel
theorem d_T_addFrame_57 : decode b_T_addFrame 57 = .ok (.iadd, 1) := by decide +kernel
theorem d_T_addFrame_58 : decode b_T_addFrame 58 = .ok (.putfield 79, 3) := by decide +kernel
theorem d_T_addFrame_61 : decode b_T_addFrame 61 = .ok (.return_, 1) := by decide +kernel
theorem d_T_requireList_0 : decode b_T_requireList 0 = .ok (.iload_n 0, 1) := by decide +kernel
theorem d_T_requireList_1 : decode b_T_requireList 1 = .ok (.invokestatic 107, 3) := by decide +kernel
theorem d_T_requireList_4 : decode b_T_requireList 4 = .ok (.ifCond .ne 11, 3) := by decide +kernel
theorem d_T_requireList_7 : decode b_T_requireList 7 = .ok (.new 76, 3) := by decide +kernel
theorem d_T_requireList_10 : decode b_T_requireList 10 = .ok (.dup, 1) := by decide +kernel
theorem d_T_requireList_11 : decode b_T_requireList 11 = .ok (.invokespecial 78, 3) := by decide +kernel
theorem d_T_requireList_14 : decode b_T_requireList 14 = .ok (.athrow, 1) := by decide +kernel
theorem d_T_requireList_15 : decode b_T_requireList 15 = .ok (.return_, 1) := by decide +kernel
theorem d_T_isList_0 : decode b_T_isList 0 = .ok (.iload_n 0, 1) := by decide +kernel
theorem d_T_isList_1 : decode b_T_isList 1 = .ok (.ifCond .lt 10, 3) := by decide +kernel
theorem d_T_isList_4 : decode b_T_isList 4 = .ok (.iload_n 0, 1) := by decide +kernel
theorem d_T_isList_5 : decode b_T_isList 5 = .ok (.sipush 15625, 3) := by decide +kernel
theorem d_T_isList_8 : decode b_T_isList 8 = .ok (.if_icmp .lt 5, 3) := by decide +kernel
theorem d_T_isList_11 : decode b_T_isList 11 = .ok (.iconst 0, 1) := by decide +kernel
theorem d_T_isList_12 : decode b_T_isList 12 = .ok (.ireturn, 1) := by decide +kernel
theorem d_T_isList_13 : decode b_T_isList 13 = .ok (.iload_n 0, 1) := by decide +kernel
theorem d_T_isList_14 : decode b_T_isList 14 = .ok (.istore_n 1, 1) := by decide +kernel
theorem d_T_isList_15 : decode b_T_isList 15 = .ok (.iconst 0, 1) := by decide +kernel
theorem d_T_isList_16 : decode b_T_isList 16 = .ok (.istore_n 2, 1) := by decide +kernel
theorem d_T_isList_17 : decode b_T_isList 17 = .ok (.iload_n 2, 1) := by decide +kernel
theorem d_T_isList_18 : decode b_T_isList 18 = .ok (.bipush 6, 2) := by decide +kernel
theorem d_T_isList_20 : decode b_T_isList 20 = .ok (.if_icmp .ge 25, 3) := by decide +kernel
theorem d_T_isList_23 : decode b_T_isList 23 = .ok (.iload_n 1, 1) := by decide +kernel
theorem d_T_isList_24 : decode b_T_isList 24 = .ok (.ifCond .le 21, 3) := by decide +kernel
theorem d_T_isList_27 : decode b_T_isList 27 = .ok (.iload_n 1, 1) := by decide +kernel
theorem d_T_isList_28 : decode b_T_isList 28 = .ok (.iconst 5, 1) := by decide +kernel
theorem d_T_isList_29 : decode b_T_isList 29 = .ok (.irem, 1) := by decide +kernel
theorem d_T_isList_30 : decode b_T_isList 30 = .ok (.ifCond .ne 5, 3) := by decide +kernel
theorem d_T_isList_33 : decode b_T_isList 33 = .ok (.iconst 0, 1) := by decide +kernel
theorem d_T_isList_34 : decode b_T_isList 34 = .ok (.ireturn, 1) := by decide +kernel
theorem d_T_isList_35 : decode b_T_isList 35 = .ok (.iload_n 1, 1) := by decide +kernel
theorem d_T_isList_36 : decode b_T_isList 36 = .ok (.iconst 5, 1) := by decide +kernel
theorem d_T_isList_37 : decode b_T_isList 37 = .ok (.idiv, 1) := by decide +kernel
theorem d_T_isList_38 : decode b_T_isList 38 = .ok (.istore_n 1, 1) := by decide +kernel
theorem d_T_isList_39 : decode b_T_isList 39 = .ok (.iinc 2 1, 3) := by decide +kernel
theorem d_T_isList_42 : decode b_T_isList 42 = .ok (.goto (-25), 3) := by decide +kernel
theorem d_T_isList_45 : decode b_T_isList 45 = .ok (.iconst 1, 1) := by decide +kernel
theorem d_T_isList_46 : decode b_T_isList 46 = .ok (.ireturn, 1) := by decide +kernel
theorem d_T_sizeOf_0 : decode b_T_sizeOf 0 = .ok (.iconst 0, 1) := by decide +kernel
theorem d_T_sizeOf_1 : decode b_T_sizeOf 1 = .ok (.istore_n 1, 1) := by decide +kernel
theorem d_T_sizeOf_2 : decode b_T_sizeOf 2 = .ok (.iload_n 0, 1) := by decide +kernel
theorem d_T_sizeOf_3 : decode b_T_sizeOf 3 = .ok (.istore_n 2, 1) := by decide +kernel
theorem d_T_sizeOf_4 : decode b_T_sizeOf 4 = .ok (.iconst 0, 1) := by decide +kernel
theorem d_T_sizeOf_5 : decode b_T_sizeOf 5 = .ok (.istore_n 3, 1) := by decide +kernel
theorem d_T_sizeOf_6 : decode b_T_sizeOf 6 = .ok (.iload_n 3, 1) := by decide +kernel
theorem d_T_sizeOf_7 : decode b_T_sizeOf 7 = .ok (.bipush 6, 2) := by decide +kernel
theorem d_T_sizeOf_9 : decode b_T_sizeOf 9 = .ok (.if_icmp .ge 20, 3) := by decide +kernel
theorem d_T_sizeOf_12 : decode b_T_sizeOf 12 = .ok (.iload_n 2, 1) := by decide +kernel
theorem d_T_sizeOf_13 : decode b_T_sizeOf 13 = .ok (.ifCond .le 16, 3) := by decide +kernel
theorem d_T_sizeOf_16 : decode b_T_sizeOf 16 = .ok (.iload_n 2, 1) := by decide +kernel
theorem d_T_sizeOf_17 : decode b_T_sizeOf 17 = .ok (.iconst 5, 1) := by decide +kernel
theorem d_T_sizeOf_18 : decode b_T_sizeOf 18 = .ok (.idiv, 1) := by decide +kernel
theorem d_T_sizeOf_19 : decode b_T_sizeOf 19 = .ok (.istore_n 2, 1) := by decide +kernel
theorem d_T_sizeOf_20 : decode b_T_sizeOf 20 = .ok (.iinc 1 1, 3) := by decide +kernel
theorem d_T_sizeOf_23 : decode b_T_sizeOf 23 = .ok (.iinc 3 1, 3) := by decide +kernel
theorem d_T_sizeOf_26 : decode b_T_sizeOf 26 = .ok (.goto (-20), 3) := by decide +kernel
theorem d_T_sizeOf_29 : decode b_T_sizeOf 29 = .ok (.iload_n 1, 1) := by decide +kernel
theorem d_T_sizeOf_30 : decode b_T_sizeOf 30 = .ok (.ireturn, 1) := by decide +kernel
theorem d_T_requireFrame_0 : decode b_T_requireFrame 0 = .ok (.aload_n 0, 1) := by decide +kernel
theorem d_T_requireFrame_1 : decode b_T_requireFrame 1 = .ok (.getfield 79, 3) := by decide +kernel
theorem d_T_requireFrame_4 : decode b_T_requireFrame 4 = .ok (.ifCond .ne 11, 3) := by decide +kernel
theorem d_T_requireFrame_7 : decode b_T_requireFrame 7 = .ok (.new 111, 3) := by decide +kernel
theorem d_T_requireFrame_10 : decode b_T_requireFrame 10 = .ok (.dup, 1) := by decide +kernel
theorem d_T_requireFrame_11 : decode b_T_requireFrame 11 = .ok (.invokespecial 113, 3) := by decide +kernel
theorem d_T_requireFrame_14 : decode b_T_requireFrame 14 = .ok (.athrow, 1) := by decide +kernel
theorem d_T_requireFrame_15 : decode b_T_requireFrame 15 = .ok (.return_, 1) := by decide +kernel
theorem d_T_frameOfLabel_0 : decode b_T_frameOfLabel 0 = .ok (.iload_n 1, 1) := by decide +kernel
theorem d_T_frameOfLabel_1 : decode b_T_frameOfLabel 1 = .ok (.ifCond .lt 11, 3) := by decide +kernel
theorem d_T_frameOfLabel_4 : decode b_T_frameOfLabel 4 = .ok (.iload_n 1, 1) := by decide +kernel
theorem d_T_frameOfLabel_5 : decode b_T_frameOfLabel 5 = .ok (.aload_n 0, 1) := by decide +kernel
theorem d_T_frameOfLabel_6 : decode b_T_frameOfLabel 6 = .ok (.getfield 79, 3) := by decide +kernel
theorem d_T_frameOfLabel_9 : decode b_T_frameOfLabel 9 = .ok (.if_icmp .lt 11, 3) := by decide +kernel
theorem d_T_frameOfLabel_12 : decode b_T_frameOfLabel 12 = .ok (.new 111, 3) := by decide +kernel
theorem d_T_frameOfLabel_15 : decode b_T_frameOfLabel 15 = .ok (.dup, 1) := by decide +kernel
theorem d_T_frameOfLabel_16 : decode b_T_frameOfLabel 16 = .ok (.invokespecial 113, 3) := by decide +kernel
theorem d_T_frameOfLabel_19 : decode b_T_frameOfLabel 19 = .ok (.athrow, 1) := by decide +kernel
theorem d_T_frameOfLabel_20 : decode b_T_frameOfLabel 20 = .ok (.aload_n 0, 1) := by decide +kernel
theorem d_T_frameOfLabel_21 : decode b_T_frameOfLabel 21 = .ok (.getfield 79, 3) := by decide +kernel
theorem d_T_frameOfLabel_24 : decode b_T_frameOfLabel 24 = .ok (.iconst 1, 1) := by decide +kernel
theorem d_T_frameOfLabel_25 : decode b_T_frameOfLabel 25 = .ok (.isub, 1) := by decide +kernel
theorem d_T_frameOfLabel_26 : decode b_T_frameOfLabel 26 = .ok (.iload_n 1, 1) := by decide +kernel
theorem d_T_frameOfLabel_27 : decode b_T_frameOfLabel 27 = .ok (.isub, 1) := by decide +kernel
theorem d_T_frameOfLabel_28 : decode b_T_frameOfLabel 28 = .ok (.ireturn, 1) := by decide +kernel
theorem d_T_wantedBy_0 : decode b_T_wantedBy 0 = .ok (.aload_n 0, 1) := by decide +kernel
theorem d_T_wantedBy_1 : decode b_T_wantedBy 1 = .ok (.getfield 13, 3) := by decide +kernel
theorem d_T_wantedBy_4 : decode b_T_wantedBy 4 = .ok (.iload_n 1, 1) := by decide +kernel
theorem d_T_wantedBy_5 : decode b_T_wantedBy 5 = .ok (.iaload, 1) := by decide +kernel
theorem d_T_wantedBy_6 : decode b_T_wantedBy 6 = .ok (.iconst 1, 1) := by decide +kernel
theorem d_T_wantedBy_7 : decode b_T_wantedBy 7 = .ok (.if_icmp .ne 12, 3) := by decide +kernel
theorem d_T_wantedBy_10 : decode b_T_wantedBy 10 = .ok (.aload_n 0, 1) := by decide +kernel
theorem d_T_wantedBy_11 : decode b_T_wantedBy 11 = .ok (.getfield 16, 3) := by decide +kernel
theorem d_T_wantedBy_14 : decode b_T_wantedBy 14 = .ok (.iload_n 1, 1) := by decide +kernel
theorem d_T_wantedBy_15 : decode b_T_wantedBy 15 = .ok (.iaload, 1) := by decide +kernel
theorem d_T_wantedBy_16 : decode b_T_wantedBy 16 = .ok (.goto 9, 3) := by decide +kernel
theorem d_T_wantedBy_19 : decode b_T_wantedBy 19 = .ok (.aload_n 0, 1) := by decide +kernel
theorem d_T_wantedBy_20 : decode b_T_wantedBy 20 = .ok (.getfield 19, 3) := by decide +kernel
theorem d_T_wantedBy_23 : decode b_T_wantedBy 23 = .ok (.iload_n 1, 1) := by decide +kernel
theorem d_T_wantedBy_24 : decode b_T_wantedBy 24 = .ok (.iaload, 1) := by decide +kernel
theorem d_T_wantedBy_25 : decode b_T_wantedBy 25 = .ok (.ireturn, 1) := by decide +kernel
theorem d_T_requireRoom_0 : decode b_T_requireRoom 0 = .ok (.iload_n 0, 1) := by decide +kernel
theorem d_T_requireRoom_1 : decode b_T_requireRoom 1 = .ok (.sipush 300, 3) := by decide +kernel
theorem d_T_requireRoom_4 : decode b_T_requireRoom 4 = .ok (.if_icmp .le 11, 3) := by decide +kernel
theorem d_T_requireRoom_7 : decode b_T_requireRoom 7 = .ok (.new 82, 3) := by decide +kernel
theorem d_T_requireRoom_10 : decode b_T_requireRoom 10 = .ok (.dup, 1) := by decide +kernel
theorem d_T_requireRoom_11 : decode b_T_requireRoom 11 = .ok (.invokespecial 84, 3) := by decide +kernel
theorem d_T_requireRoom_14 : decode b_T_requireRoom 14 = .ok (.athrow, 1) := by decide +kernel
theorem d_T_requireRoom_15 : decode b_T_requireRoom 15 = .ok (.return_, 1) := by decide +kernel
theorem d_T_requireJustWhatIsLeft_0 : decode b_T_requireJustWhatIsLeft 0 = .ok (.aload_n 0, 1) := by decide +kernel
theorem d_T_requireJustWhatIsLeft_1 : decode b_T_requireJustWhatIsLeft 1 = .ok (.getfield 79, 3) := by decide +kernel
theorem d_T_requireJustWhatIsLeft_4 : decode b_T_requireJustWhatIsLeft 4 = .ok (.iconst 1, 1) := by decide +kernel
theorem d_T_requireJustWhatIsLeft_5 : decode b_T_requireJustWhatIsLeft 5 = .ok (.isub, 1) := by decide +kernel
theorem d_T_requireJustWhatIsLeft_6 : decode b_T_requireJustWhatIsLeft 6 = .ok (.istore_n 1, 1) := by decide +kernel
theorem d_T_requireJustWhatIsLeft_7 : decode b_T_requireJustWhatIsLeft 7 = .ok (.aload_n 0, 1) := by decide +kernel
theorem d_T_requireJustWhatIsLeft_8 : decode b_T_requireJustWhatIsLeft 8 = .ok (.aload_n 0, 1) := by decide +kernel
theorem d_T_requireJustWhatIsLeft_9 : decode b_T_requireJustWhatIsLeft 9 = .ok (.getfield 39, 3) := by decide +kernel
theorem d_T_requireJustWhatIsLeft_12 : decode b_T_requireJustWhatIsLeft 12 = .ok (.aload_n 0, 1) := by decide +kernel
theorem d_T_requireJustWhatIsLeft_13 : decode b_T_requireJustWhatIsLeft 13 = .ok (.getfield 19, 3) := by decide +kernel
theorem d_T_requireJustWhatIsLeft_16 : decode b_T_requireJustWhatIsLeft 16 = .ok (.iload_n 1, 1) := by decide +kernel
theorem d_T_requireJustWhatIsLeft_17 : decode b_T_requireJustWhatIsLeft 17 = .ok (.iaload, 1) := by decide +kernel
theorem d_T_requireJustWhatIsLeft_18 : decode b_T_requireJustWhatIsLeft 18 = .ok (.invokevirtual 43, 3) := by decide +kernel
theorem d_T_requireJustWhatIsLeft_21 : decode b_T_requireJustWhatIsLeft 21 = .ok (.aload_n 0, 1) := by decide +kernel
theorem d_T_requireJustWhatIsLeft_22 : decode b_T_requireJustWhatIsLeft 22 = .ok (.getfield 22, 3) := by decide +kernel
theorem d_T_requireJustWhatIsLeft_25 : decode b_T_requireJustWhatIsLeft 25 = .ok (.iload_n 1, 1) := by decide +kernel
theorem d_T_requireJustWhatIsLeft_26 : decode b_T_requireJustWhatIsLeft 26 = .ok (.iaload, 1) := by decide +kernel
theorem d_T_requireJustWhatIsLeft_27 : decode b_T_requireJustWhatIsLeft 27 = .ok (.if_icmp .le 11, 3) := by decide +kernel
theorem d_T_requireJustWhatIsLeft_30 : decode b_T_requireJustWhatIsLeft 30 = .ok (.new 114, 3) := by decide +kernel
theorem d_T_requireJustWhatIsLeft_33 : decode b_T_requireJustWhatIsLeft 33 = .ok (.dup, 1) := by decide +kernel
theorem d_T_requireJustWhatIsLeft_34 : decode b_T_requireJustWhatIsLeft 34 = .ok (.invokespecial 116, 3) := by decide +kernel
theorem d_T_requireJustWhatIsLeft_37 : decode b_T_requireJustWhatIsLeft 37 = .ok (.athrow, 1) := by decide +kernel
theorem d_T_requireJustWhatIsLeft_38 : decode b_T_requireJustWhatIsLeft 38 = .ok (.return_, 1) := by decide +kernel
theorem d_T_typeToTake_0 : decode b_T_typeToTake 0 = .ok (.iload_n 1, 1) := by decide +kernel
theorem d_T_typeToTake_1 : decode b_T_typeToTake 1 = .ok (.aload_n 0, 1) := by decide +kernel
theorem d_T_typeToTake_2 : decode b_T_typeToTake 2 = .ok (.getfield 22, 3) := by decide +kernel
theorem d_T_typeToTake_5 : decode b_T_typeToTake 5 = .ok (.aload_n 0, 1) := by decide +kernel
theorem d_T_typeToTake_6 : decode b_T_typeToTake 6 = .ok (.getfield 79, 3) := by decide +kernel
theorem d_T_typeToTake_9 : decode b_T_typeToTake 9 = .ok (.iconst 1, 1) := by decide +kernel
theorem d_T_typeToTake_10 : decode b_T_typeToTake 10 = .ok (.isub, 1) := by decide +kernel
theorem d_T_typeToTake_11 : decode b_T_typeToTake 11 = .ok (.iaload, 1) := by decide +kernel
theorem d_T_typeToTake_12 : decode b_T_typeToTake 12 = .ok (.if_icmp .le 14, 3) := by decide +kernel
theorem d_T_typeToTake_15 : decode b_T_typeToTake 15 = .ok (.aload_n 0, 1) := by decide +kernel
theorem d_T_typeToTake_16 : decode b_T_typeToTake 16 = .ok (.getfield 9, 3) := by decide +kernel
theorem d_T_typeToTake_19 : decode b_T_typeToTake 19 = .ok (.iload_n 1, 1) := by decide +kernel
theorem d_T_typeToTake_20 : decode b_T_typeToTake 20 = .ok (.iconst 1, 1) := by decide +kernel
theorem d_T_typeToTake_21 : decode b_T_typeToTake 21 = .ok (.isub, 1) := by decide +kernel
theorem d_T_typeToTake_22 : decode b_T_typeToTake 22 = .ok (.iaload, 1) := by decide +kernel
theorem d_T_typeToTake_23 : decode b_T_typeToTake 23 = .ok (.goto 4, 3) := by decide +kernel
theorem d_T_typeToTake_26 : decode b_T_typeToTake 26 = .ok (.iconst 0, 1) := by decide +kernel
theorem d_T_typeToTake_27 : decode b_T_typeToTake 27 = .ok (.ireturn, 1) := by decide +kernel
theorem d_T_heightBelowOne_0 : decode b_T_heightBelowOne 0 = .ok (.aload_n 0, 1) := by decide +kernel
theorem d_T_heightBelowOne_1 : decode b_T_heightBelowOne 1 = .ok (.getfield 79, 3) := by decide +kernel
theorem d_T_heightBelowOne_4 : decode b_T_heightBelowOne 4 = .ok (.iconst 1, 1) := by decide +kernel
theorem d_T_heightBelowOne_5 : decode b_T_heightBelowOne 5 = .ok (.isub, 1) := by decide +kernel
theorem d_T_heightBelowOne_6 : decode b_T_heightBelowOne 6 = .ok (.istore_n 2, 1) := by decide +kernel
theorem d_T_heightBelowOne_7 : decode b_T_heightBelowOne 7 = .ok (.iload_n 1, 1) := by decide +kernel
theorem d_T_heightBelowOne_8 : decode b_T_heightBelowOne 8 = .ok (.aload_n 0, 1) := by decide +kernel
theorem d_T_heightBelowOne_9 : decode b_T_heightBelowOne 9 = .ok (.getfield 22, 3) := by decide +kernel
theorem d_T_heightBelowOne_12 : decode b_T_heightBelowOne 12 = .ok (.iload_n 2, 1) := by decide +kernel
theorem d_T_heightBelowOne_13 : decode b_T_heightBelowOne 13 = .ok (.iaload, 1) := by decide +kernel
theorem d_T_heightBelowOne_14 : decode b_T_heightBelowOne 14 = .ok (.if_icmp .le 7, 3) := by decide +kernel
theorem d_T_heightBelowOne_17 : decode b_T_heightBelowOne 17 = .ok (.iload_n 1, 1) := by decide +kernel
theorem d_T_heightBelowOne_18 : decode b_T_heightBelowOne 18 = .ok (.iconst 1, 1) := by decide +kernel
theorem d_T_heightBelowOne_19 : decode b_T_heightBelowOne 19 = .ok (.isub, 1) := by decide +kernel
theorem d_T_heightBelowOne_20 : decode b_T_heightBelowOne 20 = .ok (.ireturn, 1) := by decide +kernel
theorem d_T_heightBelowOne_21 : decode b_T_heightBelowOne 21 = .ok (.aload_n 0, 1) := by decide +kernel
theorem d_T_heightBelowOne_22 : decode b_T_heightBelowOne 22 = .ok (.getfield 25, 3) := by decide +kernel
theorem d_T_heightBelowOne_25 : decode b_T_heightBelowOne 25 = .ok (.iload_n 2, 1) := by decide +kernel
theorem d_T_heightBelowOne_26 : decode b_T_heightBelowOne 26 = .ok (.baload, 1) := by decide +kernel
theorem d_T_heightBelowOne_27 : decode b_T_heightBelowOne 27 = .ok (.ifCond .ne 11, 3) := by decide +kernel
theorem d_T_heightBelowOne_30 : decode b_T_heightBelowOne 30 = .ok (.new 114, 3) := by decide +kernel
theorem d_T_heightBelowOne_33 : decode b_T_heightBelowOne 33 = .ok (.dup, 1) := by decide +kernel
theorem d_T_heightBelowOne_34 : decode b_T_heightBelowOne 34 = .ok (.invokespecial 116, 3) := by decide +kernel
theorem d_T_heightBelowOne_37 : decode b_T_heightBelowOne 37 = .ok (.athrow, 1) := by decide +kernel
theorem d_T_heightBelowOne_38 : decode b_T_heightBelowOne 38 = .ok (.iload_n 1, 1) := by decide +kernel
theorem d_T_heightBelowOne_39 : decode b_T_heightBelowOne 39 = .ok (.ireturn, 1) := by decide +kernel
theorem d_T_heightBelowType_0 : decode b_T_heightBelowType 0 = .ok (.aload_n 0, 1) := by decide +kernel
theorem d_T_heightBelowType_1 : decode b_T_heightBelowType 1 = .ok (.iload_n 1, 1) := by decide +kernel
theorem d_T_heightBelowType_2 : decode b_T_heightBelowType 2 = .ok (.invokevirtual 64, 3) := by decide +kernel
theorem d_T_heightBelowType_5 : decode b_T_heightBelowType 5 = .ok (.istore_n 3, 1) := by decide +kernel
theorem d_T_heightBelowType_6 : decode b_T_heightBelowType 6 = .ok (.iload_n 3, 1) := by decide +kernel
theorem d_T_heightBelowType_7 : decode b_T_heightBelowType 7 = .ok (.iload_n 2, 1) := by decide +kernel
theorem d_T_heightBelowType_8 : decode b_T_heightBelowType 8 = .ok (.if_icmp .eq 15, 3) := by decide +kernel
theorem d_T_heightBelowType_11 : decode b_T_heightBelowType 11 = .ok (.iload_n 3, 1) := by decide +kernel
theorem d_T_heightBelowType_12 : decode b_T_heightBelowType 12 = .ok (.ifCond .eq 11, 3) := by decide +kernel
theorem d_T_heightBelowType_15 : decode b_T_heightBelowType 15 = .ok (.new 114, 3) := by decide +kernel
theorem d_T_heightBelowType_18 : decode b_T_heightBelowType 18 = .ok (.dup, 1) := by decide +kernel
theorem d_T_heightBelowType_19 : decode b_T_heightBelowType 19 = .ok (.invokespecial 116, 3) := by decide +kernel
theorem d_T_heightBelowType_22 : decode b_T_heightBelowType 22 = .ok (.athrow, 1) := by decide +kernel
theorem d_T_heightBelowType_23 : decode b_T_heightBelowType 23 = .ok (.aload_n 0, 1) := by decide +kernel
theorem d_T_heightBelowType_24 : decode b_T_heightBelowType 24 = .ok (.iload_n 1, 1) := by decide +kernel
theorem d_T_heightBelowType_25 : decode b_T_heightBelowType 25 = .ok (.invokevirtual 61, 3) := by decide +kernel
theorem d_T_heightBelowType_28 : decode b_T_heightBelowType 28 = .ok (.ireturn, 1) := by decide +kernel
theorem d_T_heightBelowList_0 : decode b_T_heightBelowList 0 = .ok (.iload_n 1, 1) := by decide +kernel
theorem d_T_heightBelowList_1 : decode b_T_heightBelowList 1 = .ok (.istore_n 3, 1) := by decide +kernel
theorem d_T_heightBelowList_2 : decode b_T_heightBelowList 2 = .ok (.iload_n 2, 1) := by decide +kernel
theorem d_T_heightBelowList_3 : decode b_T_heightBelowList 3 = .ok (.istore 4, 2) := by decide +kernel
theorem d_T_heightBelowList_5 : decode b_T_heightBelowList 5 = .ok (.iconst 0, 1) := by decide +kernel
theorem d_T_heightBelowList_6 : decode b_T_heightBelowList 6 = .ok (.istore 5, 2) := by decide +kernel
theorem d_T_heightBelowList_8 : decode b_T_heightBelowList 8 = .ok (.iload 5, 2) := by decide +kernel
theorem d_T_heightBelowList_10 : decode b_T_heightBelowList 10 = .ok (.bipush 6, 2) := by decide +kernel
theorem d_T_heightBelowList_12 : decode b_T_heightBelowList 12 = .ok (.if_icmp .ge 30, 3) := by decide +kernel
theorem d_T_heightBelowList_15 : decode b_T_heightBelowList 15 = .ok (.iload 4, 2) := by decide +kernel
theorem d_T_heightBelowList_17 : decode b_T_heightBelowList 17 = .ok (.ifCond .le 25, 3) := by decide +kernel
theorem d_T_heightBelowList_20 : decode b_T_heightBelowList 20 = .ok (.aload_n 0, 1) := by decide +kernel
theorem d_T_heightBelowList_21 : decode b_T_heightBelowList 21 = .ok (.iload_n 3, 1) := by decide +kernel
theorem d_T_heightBelowList_22 : decode b_T_heightBelowList 22 = .ok (.iload 4, 2) := by decide +kernel
theorem d_T_heightBelowList_24 : decode b_T_heightBelowList 24 = .ok (.iconst 5, 1) := by decide +kernel
theorem d_T_heightBelowList_25 : decode b_T_heightBelowList 25 = .ok (.irem, 1) := by decide +kernel
theorem d_T_heightBelowList_26 : decode b_T_heightBelowList 26 = .ok (.invokevirtual 67, 3) := by decide +kernel
theorem d_T_heightBelowList_29 : decode b_T_heightBelowList 29 = .ok (.istore_n 3, 1) := by decide +kernel
theorem d_T_heightBelowList_30 : decode b_T_heightBelowList 30 = .ok (.iload 4, 2) := by decide +kernel
theorem d_T_heightBelowList_32 : decode b_T_heightBelowList 32 = .ok (.iconst 5, 1) := by decide +kernel
theorem d_T_heightBelowList_33 : decode b_T_heightBelowList 33 = .ok (.idiv, 1) := by decide +kernel
theorem d_T_heightBelowList_34 : decode b_T_heightBelowList 34 = .ok (.istore 4, 2) := by decide +kernel
theorem d_T_heightBelowList_36 : decode b_T_heightBelowList 36 = .ok (.iinc 5 1, 3) := by decide +kernel
theorem d_T_heightBelowList_39 : decode b_T_heightBelowList 39 = .ok (.goto (-31), 3) := by decide +kernel
theorem d_T_heightBelowList_42 : decode b_T_heightBelowList 42 = .ok (.iload_n 3, 1) := by decide +kernel
theorem d_T_heightBelowList_43 : decode b_T_heightBelowList 43 = .ok (.ireturn, 1) := by decide +kernel
theorem d_T_commonType_0 : decode b_T_commonType 0 = .ok (.iload_n 0, 1) := by decide +kernel
theorem d_T_commonType_1 : decode b_T_commonType 1 = .ok (.ifCond .ne 7, 3) := by decide +kernel
theorem d_T_commonType_4 : decode b_T_commonType 4 = .ok (.iload_n 1, 1) := by decide +kernel
theorem d_T_commonType_5 : decode b_T_commonType 5 = .ok (.goto 4, 3) := by decide +kernel
theorem d_T_commonType_8 : decode b_T_commonType 8 = .ok (.iload_n 0, 1) := by decide +kernel
theorem d_T_commonType_9 : decode b_T_commonType 9 = .ok (.istore_n 2, 1) := by decide +kernel
theorem d_T_commonType_10 : decode b_T_commonType 10 = .ok (.iload_n 1, 1) := by decide +kernel
theorem d_T_commonType_11 : decode b_T_commonType 11 = .ok (.ifCond .eq 8, 3) := by decide +kernel
theorem d_T_commonType_14 : decode b_T_commonType 14 = .ok (.iload_n 1, 1) := by decide +kernel
theorem d_T_commonType_15 : decode b_T_commonType 15 = .ok (.iload_n 2, 1) := by decide +kernel
theorem d_T_commonType_16 : decode b_T_commonType 16 = .ok (.if_icmp .ne 7, 3) := by decide +kernel
theorem d_T_commonType_19 : decode b_T_commonType 19 = .ok (.iconst 1, 1) := by decide +kernel
theorem d_T_commonType_20 : decode b_T_commonType 20 = .ok (.goto 4, 3) := by decide +kernel
theorem d_T_commonType_23 : decode b_T_commonType 23 = .ok (.iconst 0, 1) := by decide +kernel
theorem d_T_commonType_24 : decode b_T_commonType 24 = .ok (.istore_n 3, 1) := by decide +kernel
theorem d_T_commonType_25 : decode b_T_commonType 25 = .ok (.iload_n 3, 1) := by decide +kernel
theorem d_T_commonType_26 : decode b_T_commonType 26 = .ok (.ifCond .eq 8, 3) := by decide +kernel
theorem d_T_commonType_29 : decode b_T_commonType 29 = .ok (.iload_n 2, 1) := by decide +kernel
theorem d_T_commonType_30 : decode b_T_commonType 30 = .ok (.iconst 4, 1) := by decide +kernel
theorem d_T_commonType_31 : decode b_T_commonType 31 = .ok (.if_icmp .ne 11, 3) := by decide +kernel
theorem d_T_commonType_34 : decode b_T_commonType 34 = .ok (.new 89, 3) := by decide +kernel
theorem d_T_commonType_37 : decode b_T_commonType 37 = .ok (.dup, 1) := by decide +kernel
theorem d_T_commonType_38 : decode b_T_commonType 38 = .ok (.invokespecial 91, 3) := by decide +kernel
theorem d_T_commonType_41 : decode b_T_commonType 41 = .ok (.athrow, 1) := by decide +kernel
theorem d_T_commonType_42 : decode b_T_commonType 42 = .ok (.iload_n 2, 1) := by decide +kernel
theorem d_T_commonType_43 : decode b_T_commonType 43 = .ok (.ireturn, 1) := by decide +kernel
theorem d_T_putList_0 : decode b_T_putList 0 = .ok (.iload_n 2, 1) := by decide +kernel
theorem d_T_putList_1 : decode b_T_putList 1 = .ok (.invokestatic 47, 3) := by decide +kernel
theorem d_T_putList_4 : decode b_T_putList 4 = .ok (.istore_n 3, 1) := by decide +kernel
theorem d_T_putList_5 : decode b_T_putList 5 = .ok (.iload_n 2, 1) := by decide +kernel
theorem d_T_putList_6 : decode b_T_putList 6 = .ok (.istore 4, 2) := by decide +kernel
theorem d_T_putList_8 : decode b_T_putList 8 = .ok (.iload_n 3, 1) := by decide +kernel
theorem d_T_putList_9 : decode b_T_putList 9 = .ok (.iconst 1, 1) := by decide +kernel
theorem d_T_putList_10 : decode b_T_putList 10 = .ok (.isub, 1) := by decide +kernel
theorem d_T_putList_11 : decode b_T_putList 11 = .ok (.istore 5, 2) := by decide +kernel
theorem d_T_putList_13 : decode b_T_putList 13 = .ok (.iload 5, 2) := by decide +kernel
theorem d_T_putList_15 : decode b_T_putList 15 = .ok (.ifCond .lt 28, 3) := by decide +kernel
theorem d_T_putList_18 : decode b_T_putList 18 = .ok (.aload_n 0, 1) := by decide +kernel
theorem d_T_putList_19 : decode b_T_putList 19 = .ok (.getfield 9, 3) := by decide +kernel
theorem d_T_putList_22 : decode b_T_putList 22 = .ok (.iload_n 1, 1) := by decide +kernel
theorem d_T_putList_23 : decode b_T_putList 23 = .ok (.iload 5, 2) := by decide +kernel
theorem d_T_putList_25 : decode b_T_putList 25 = .ok (.iadd, 1) := by decide +kernel
theorem d_T_putList_26 : decode b_T_putList 26 = .ok (.iload 4, 2) := by decide +kernel
theorem d_T_putList_28 : decode b_T_putList 28 = .ok (.iconst 5, 1) := by decide +kernel
theorem d_T_putList_29 : decode b_T_putList 29 = .ok (.irem, 1) := by decide +kernel
theorem d_T_putList_30 : decode b_T_putList 30 = .ok (.iastore, 1) := by decide +kernel
theorem d_T_putList_31 : decode b_T_putList 31 = .ok (.iload 4, 2) := by decide +kernel
theorem d_T_putList_33 : decode b_T_putList 33 = .ok (.iconst 5, 1) := by decide +kernel
theorem d_T_putList_34 : decode b_T_putList 34 = .ok (.idiv, 1) := by decide +kernel
theorem d_T_putList_35 : decode b_T_putList 35 = .ok (.istore 4, 2) := by decide +kernel
theorem d_T_putList_37 : decode b_T_putList 37 = .ok (.iinc 5 (-1), 3) := by decide +kernel
theorem d_T_putList_40 : decode b_T_putList 40 = .ok (.goto (-27), 3) := by decide +kernel
theorem d_T_putList_43 : decode b_T_putList 43 = .ok (.aload_n 0, 1) := by decide +kernel
theorem d_T_putList_44 : decode b_T_putList 44 = .ok (.iload_n 1, 1) := by decide +kernel
theorem d_T_putList_45 : decode b_T_putList 45 = .ok (.iload_n 3, 1) := by decide +kernel
theorem d_T_putList_46 : decode b_T_putList 46 = .ok (.iadd, 1) := by decide +kernel
theorem d_T_putList_47 : decode b_T_putList 47 = .ok (.invokevirtual 73, 3) := by decide +kernel
theorem d_T_putList_50 : decode b_T_putList 50 = .ok (.return_, 1) := by decide +kernel
theorem d_T_riseTo_0 : decode b_T_riseTo 0 = .ok (.aload_n 0, 1) := by decide +kernel
theorem d_T_riseTo_1 : decode b_T_riseTo 1 = .ok (.iload_n 1, 1) := by decide +kernel
theorem d_T_riseTo_2 : decode b_T_riseTo 2 = .ok (.putfield 39, 3) := by decide +kernel
theorem d_T_riseTo_5 : decode b_T_riseTo 5 = .ok (.aload_n 0, 1) := by decide +kernel
theorem d_T_riseTo_6 : decode b_T_riseTo 6 = .ok (.aload_n 0, 1) := by decide +kernel
theorem d_T_riseTo_7 : decode b_T_riseTo 7 = .ok (.getfield 104, 3) := by decide +kernel
theorem d_T_riseTo_10 : decode b_T_riseTo 10 = .ok (.iload_n 1, 1) := by decide +kernel
theorem d_T_riseTo_11 : decode b_T_riseTo 11 = .ok (.invokestatic 117, 3) := by decide +kernel
theorem d_T_riseTo_14 : decode b_T_riseTo 14 = .ok (.putfield 104, 3) := by decide +kernel
theorem d_T_riseTo_17 : decode b_T_riseTo 17 = .ok (.return_, 1) := by decide +kernel
