theorem d_T_init_0 : decode b_T_init 0 = .ok (.aload_n 0, 1) := by decide +kernel
theorem d_T_init_1 : decode b_T_init 1 = .ok (.invokespecial 1, 3) := by decide +kernel
theorem d_T_init_4 : decode b_T_init 4 = .ok (.aload_n 0, 1) := by decide +kernel
theorem d_T_init_5 : decode b_T_init 5 = .ok (.sipush 300, 3) := by decide +kernel
theorem d_T_init_8 : decode b_T_init 8 = .ok (.newarray .int, 2) := by decide +kernel
theorem d_T_init_10 : decode b_T_init 10 = .ok (.putfield 9, 3) := by decide +kernel
theorem d_T_init_13 : decode b_T_init 13 = .ok (.aload_n 0, 1) := by decide +kernel
theorem d_T_init_14 : decode b_T_init 14 = .ok (.bipush 40, 2) := by decide +kernel
theorem d_T_init_16 : decode b_T_init 16 = .ok (.newarray .int, 2) := by decide +kernel
theorem d_T_init_18 : decode b_T_init 18 = .ok (.putfield 13, 3) := by decide +kernel
theorem d_T_init_21 : decode b_T_init 21 = .ok (.aload_n 0, 1) := by decide +kernel
theorem d_T_init_22 : decode b_T_init 22 = .ok (.bipush 40, 2) := by decide +kernel
theorem d_T_init_24 : decode b_T_init 24 = .ok (.newarray .int, 2) := by decide +kernel
theorem d_T_init_26 : decode b_T_init 26 = .ok (.putfield 16, 3) := by decide +kernel
theorem d_T_init_29 : decode b_T_init 29 = .ok (.aload_n 0, 1) := by decide +kernel
theorem d_T_init_30 : decode b_T_init 30 = .ok (.bipush 40, 2) := by decide +kernel
theorem d_T_init_32 : decode b_T_init 32 = .ok (.newarray .int, 2) := by decide +kernel
theorem d_T_init_34 : decode b_T_init 34 = .ok (.putfield 19, 3) := by decide +kernel
theorem d_T_init_37 : decode b_T_init 37 = .ok (.aload_n 0, 1) := by decide +kernel
theorem d_T_init_38 : decode b_T_init 38 = .ok (.bipush 40, 2) := by decide +kernel
theorem d_T_init_40 : decode b_T_init 40 = .ok (.newarray .int, 2) := by decide +kernel
theorem d_T_init_42 : decode b_T_init 42 = .ok (.putfield 22, 3) := by decide +kernel
theorem d_T_init_45 : decode b_T_init 45 = .ok (.aload_n 0, 1) := by decide +kernel
theorem d_T_init_46 : decode b_T_init 46 = .ok (.bipush 40, 2) := by decide +kernel
theorem d_T_init_48 : decode b_T_init 48 = .ok (.newarray .boolean, 2) := by decide +kernel
theorem d_T_init_50 : decode b_T_init 50 = .ok (.putfield 25, 3) := by decide +kernel
theorem d_T_init_53 : decode b_T_init 53 = .ok (.aload_n 0, 1) := by decide +kernel
theorem d_T_init_54 : decode b_T_init 54 = .ok (.iconst 0, 1) := by decide +kernel
theorem d_T_init_55 : decode b_T_init 55 = .ok (.invokevirtual 29, 3) := by decide +kernel
theorem d_T_init_58 : decode b_T_init 58 = .ok (.return_, 1) := by decide +kernel
theorem d_T_begin_0 : decode b_T_begin 0 = .ok (.iload_n 1, 1) := by decide +kernel
theorem d_T_begin_1 : decode b_T_begin 1 = .ok (.invokestatic 33, 3) := by decide +kernel
theorem d_T_begin_4 : decode b_T_begin 4 = .ok (.aload_n 0, 1) := by decide +kernel
theorem d_T_begin_5 : decode b_T_begin 5 = .ok (.iload_n 1, 1) := by decide +kernel
theorem d_T_begin_6 : decode b_T_begin 6 = .ok (.invokevirtual 29, 3) := by decide +kernel
theorem d_T_begin_9 : decode b_T_begin 9 = .ok (.return_, 1) := by decide +kernel
theorem d_T_apply_0 : decode b_T_apply 0 = .ok (.iload_n 1, 1) := by decide +kernel
theorem d_T_apply_1 : decode b_T_apply 1 = .ok (.invokestatic 33, 3) := by decide +kernel
theorem d_T_apply_4 : decode b_T_apply 4 = .ok (.iload_n 2, 1) := by decide +kernel
theorem d_T_apply_5 : decode b_T_apply 5 = .ok (.invokestatic 33, 3) := by decide +kernel
theorem d_T_apply_8 : decode b_T_apply 8 = .ok (.aload_n 0, 1) := by decide +kernel
theorem d_T_apply_9 : decode b_T_apply 9 = .ok (.invokevirtual 36, 3) := by decide +kernel
theorem d_T_apply_12 : decode b_T_apply 12 = .ok (.aload_n 0, 1) := by decide +kernel
theorem d_T_apply_13 : decode b_T_apply 13 = .ok (.aload_n 0, 1) := by decide +kernel
theorem d_T_apply_14 : decode b_T_apply 14 = .ok (.getfield 39, 3) := by decide +kernel
theorem d_T_apply_17 : decode b_T_apply 17 = .ok (.iload_n 1, 1) := by decide +kernel
theorem d_T_apply_18 : decode b_T_apply 18 = .ok (.invokevirtual 43, 3) := by decide +kernel
theorem d_T_apply_21 : decode b_T_apply 21 = .ok (.istore_n 3, 1) := by decide +kernel
theorem d_T_apply_22 : decode b_T_apply 22 = .ok (.iload_n 3, 1) := by decide +kernel
theorem d_T_apply_23 : decode b_T_apply 23 = .ok (.iload_n 2, 1) := by decide +kernel
theorem d_T_apply_24 : decode b_T_apply 24 = .ok (.invokestatic 47, 3) := by decide +kernel
theorem d_T_apply_27 : decode b_T_apply 27 = .ok (.iadd, 1) := by decide +kernel
theorem d_T_apply_28 : decode b_T_apply 28 = .ok (.invokestatic 51, 3) := by decide +kernel
theorem d_T_apply_31 : decode b_T_apply 31 = .ok (.aload_n 0, 1) := by decide +kernel
theorem d_T_apply_32 : decode b_T_apply 32 = .ok (.iload_n 3, 1) := by decide +kernel
theorem d_T_apply_33 : decode b_T_apply 33 = .ok (.iload_n 2, 1) := by decide +kernel
theorem d_T_apply_34 : decode b_T_apply 34 = .ok (.invokevirtual 54, 3) := by decide +kernel
theorem d_T_apply_37 : decode b_T_apply 37 = .ok (.aload_n 0, 1) := by decide +kernel
theorem d_T_apply_38 : decode b_T_apply 38 = .ok (.dup, 1) := by decide +kernel
theorem d_T_apply_39 : decode b_T_apply 39 = .ok (.getfield 58, 3) := by decide +kernel
theorem d_T_apply_42 : decode b_T_apply 42 = .ok (.iconst 1, 1) := by decide +kernel
theorem d_T_apply_43 : decode b_T_apply 43 = .ok (.iadd, 1) := by decide +kernel
theorem d_T_apply_44 : decode b_T_apply 44 = .ok (.putfield 58, 3) := by decide +kernel
theorem d_T_apply_47 : decode b_T_apply 47 = .ok (.aload_n 0, 1) := by decide +kernel
theorem d_T_apply_48 : decode b_T_apply 48 = .ok (.getfield 39, 3) := by decide +kernel
theorem d_T_apply_51 : decode b_T_apply 51 = .ok (.ireturn, 1) := by decide +kernel
theorem d_T_drop_0 : decode b_T_drop 0 = .ok (.aload_n 0, 1) := by decide +kernel
theorem d_T_drop_1 : decode b_T_drop 1 = .ok (.invokevirtual 36, 3) := by decide +kernel
theorem d_T_drop_4 : decode b_T_drop 4 = .ok (.aload_n 0, 1) := by decide +kernel
theorem d_T_drop_5 : decode b_T_drop 5 = .ok (.aload_n 0, 1) := by decide +kernel
theorem d_T_drop_6 : decode b_T_drop 6 = .ok (.getfield 39, 3) := by decide +kernel
theorem d_T_drop_9 : decode b_T_drop 9 = .ok (.invokevirtual 61, 3) := by decide +kernel
theorem d_T_drop_12 : decode b_T_drop 12 = .ok (.istore_n 1, 1) := by decide +kernel
theorem d_T_drop_13 : decode b_T_drop 13 = .ok (.aload_n 0, 1) := by decide +kernel
theorem d_T_drop_14 : decode b_T_drop 14 = .ok (.aload_n 0, 1) := by decide +kernel
theorem d_T_drop_15 : decode b_T_drop 15 = .ok (.getfield 39, 3) := by decide +kernel
theorem d_T_drop_18 : decode b_T_drop 18 = .ok (.invokevirtual 64, 3) := by decide +kernel
theorem d_T_drop_21 : decode b_T_drop 21 = .ok (.istore_n 2, 1) := by decide +kernel
theorem d_T_drop_22 : decode b_T_drop 22 = .ok (.aload_n 0, 1) := by decide +kernel
theorem d_T_drop_23 : decode b_T_drop 23 = .ok (.iload_n 1, 1) := by decide +kernel
theorem d_T_drop_24 : decode b_T_drop 24 = .ok (.putfield 39, 3) := by decide +kernel
theorem d_T_drop_27 : decode b_T_drop 27 = .ok (.aload_n 0, 1) := by decide +kernel
theorem d_T_drop_28 : decode b_T_drop 28 = .ok (.dup, 1) := by decide +kernel
theorem d_T_drop_29 : decode b_T_drop 29 = .ok (.getfield 58, 3) := by decide +kernel
theorem d_T_drop_32 : decode b_T_drop 32 = .ok (.iconst 1, 1) := by decide +kernel
theorem d_T_drop_33 : decode b_T_drop 33 = .ok (.iadd, 1) := by decide +kernel
theorem d_T_drop_34 : decode b_T_drop 34 = .ok (.putfield 58, 3) := by decide +kernel
theorem d_T_drop_37 : decode b_T_drop 37 = .ok (.iload_n 2, 1) := by decide +kernel
theorem d_T_drop_38 : decode b_T_drop 38 = .ok (.ireturn, 1) := by decide +kernel
theorem d_T_select_0 : decode b_T_select 0 = .ok (.aload_n 0, 1) := by decide +kernel
theorem d_T_select_1 : decode b_T_select 1 = .ok (.invokevirtual 36, 3) := by decide +kernel
theorem d_T_select_4 : decode b_T_select 4 = .ok (.aload_n 0, 1) := by decide +kernel
theorem d_T_select_5 : decode b_T_select 5 = .ok (.aload_n 0, 1) := by decide +kernel
theorem d_T_select_6 : decode b_T_select 6 = .ok (.getfield 39, 3) := by decide +kernel
theorem d_T_select_9 : decode b_T_select 9 = .ok (.iconst 1, 1) := by decide +kernel
theorem d_T_select_10 : decode b_T_select 10 = .ok (.invokevirtual 67, 3) := by decide +kernel
theorem d_T_select_13 : decode b_T_select 13 = .ok (.istore_n 1, 1) := by decide +kernel
theorem d_T_select_14 : decode b_T_select 14 = .ok (.aload_n 0, 1) := by decide +kernel
theorem d_T_select_15 : decode b_T_select 15 = .ok (.iload_n 1, 1) := by decide +kernel
theorem d_T_select_16 : decode b_T_select 16 = .ok (.invokevirtual 61, 3) := by decide +kernel
theorem d_T_select_19 : decode b_T_select 19 = .ok (.istore_n 2, 1) := by decide +kernel
theorem d_T_select_20 : decode b_T_select 20 = .ok (.aload_n 0, 1) := by decide +kernel
theorem d_T_select_21 : decode b_T_select 21 = .ok (.iload_n 2, 1) := by decide +kernel
theorem d_T_select_22 : decode b_T_select 22 = .ok (.invokevirtual 61, 3) := by decide +kernel
theorem d_T_select_25 : decode b_T_select 25 = .ok (.istore_n 3, 1) := by decide +kernel
theorem d_T_select_26 : decode b_T_select 26 = .ok (.aload_n 0, 1) := by decide +kernel
theorem d_T_select_27 : decode b_T_select 27 = .ok (.iload_n 1, 1) := by decide +kernel
theorem d_T_select_28 : decode b_T_select 28 = .ok (.invokevirtual 64, 3) := by decide +kernel
theorem d_T_select_31 : decode b_T_select 31 = .ok (.aload_n 0, 1) := by decide +kernel
theorem d_T_select_32 : decode b_T_select 32 = .ok (.iload_n 2, 1) := by decide +kernel
theorem d_T_select_33 : decode b_T_select 33 = .ok (.invokevirtual 64, 3) := by decide +kernel
theorem d_T_select_36 : decode b_T_select 36 = .ok (.invokestatic 70, 3) := by decide +kernel
theorem d_T_select_39 : decode b_T_select 39 = .ok (.istore 4, 2) := by decide +kernel
theorem d_T_select_41 : decode b_T_select 41 = .ok (.iload_n 3, 1) := by decide +kernel
theorem d_T_select_42 : decode b_T_select 42 = .ok (.iconst 1, 1) := by decide +kernel
theorem d_T_select_43 : decode b_T_select 43 = .ok (.iadd, 1) := by decide +kernel
theorem d_T_select_44 : decode b_T_select 44 = .ok (.invokestatic 51, 3) := by decide +kernel
theorem d_T_select_47 : decode b_T_select 47 = .ok (.aload_n 0, 1) := by decide +kernel
theorem d_T_select_48 : decode b_T_select 48 = .ok (.getfield 9, 3) := by decide +kernel
theorem d_T_select_51 : decode b_T_select 51 = .ok (.iload_n 3, 1) := by decide +kernel
theorem d_T_select_52 : decode b_T_select 52 = .ok (.iload 4, 2) := by decide +kernel
theorem d_T_select_54 : decode b_T_select 54 = .ok (.iastore, 1) := by decide +kernel
theorem d_T_select_55 : decode b_T_select 55 = .ok (.aload_n 0, 1) := by decide +kernel
theorem d_T_select_56 : decode b_T_select 56 = .ok (.iload_n 3, 1) := by decide +kernel
theorem d_T_select_57 : decode b_T_select 57 = .ok (.iconst 1, 1) := by decide +kernel
theorem d_T_select_58 : decode b_T_select 58 = .ok (.iadd, 1) := by decide +kernel
theorem d_T_select_59 : decode b_T_select 59 = .ok (.invokevirtual 73, 3) := by decide +kernel
theorem d_T_select_62 : decode b_T_select 62 = .ok (.aload_n 0, 1) := by decide +kernel
theorem d_T_select_63 : decode b_T_select 63 = .ok (.dup, 1) := by decide +kernel
theorem d_T_select_64 : decode b_T_select 64 = .ok (.getfield 58, 3) := by decide +kernel
theorem d_T_select_67 : decode b_T_select 67 = .ok (.iconst 1, 1) := by decide +kernel
theorem d_T_select_68 : decode b_T_select 68 = .ok (.iadd, 1) := by decide +kernel
theorem d_T_select_69 : decode b_T_select 69 = .ok (.putfield 58, 3) := by decide +kernel
theorem d_T_select_72 : decode b_T_select 72 = .ok (.iload 4, 2) := by decide +kernel
theorem d_T_select_74 : decode b_T_select 74 = .ok (.ireturn, 1) := by decide +kernel
theorem d_T_block_0 : decode b_T_block 0 = .ok (.iload_n 1, 1) := by decide +kernel
theorem d_T_block_1 : decode b_T_block 1 = .ok (.ifCond .eq 21, 3) := by decide +kernel
theorem d_T_block_4 : decode b_T_block 4 = .ok (.iload_n 1, 1) := by decide +kernel
theorem d_T_block_5 : decode b_T_block 5 = .ok (.iconst 1, 1) := by decide +kernel
theorem d_T_block_6 : decode b_T_block 6 = .ok (.if_icmp .eq 16, 3) := by decide +kernel
theorem d_T_block_9 : decode b_T_block 9 = .ok (.iload_n 1, 1) := by decide +kernel
theorem d_T_block_10 : decode b_T_block 10 = .ok (.iconst 2, 1) := by decide +kernel
theorem d_T_block_11 : decode b_T_block 11 = .ok (.if_icmp .eq 11, 3) := by decide +kernel
theorem d_T_block_14 : decode b_T_block 14 = .ok (.new 76, 3) := by decide +kernel
theorem d_T_block_17 : decode b_T_block 17 = .ok (.dup, 1) := by decide +kernel
theorem d_T_block_18 : decode b_T_block 18 = .ok (.invokespecial 78, 3) := by decide +kernel
theorem d_T_block_21 : decode b_T_block 21 = .ok (.athrow, 1) := by decide +kernel
theorem d_T_block_22 : decode b_T_block 22 = .ok (.iload_n 2, 1) := by decide +kernel
theorem d_T_block_23 : decode b_T_block 23 = .ok (.invokestatic 33, 3) := by decide +kernel
theorem d_T_block_26 : decode b_T_block 26 = .ok (.iload_n 3, 1) := by decide +kernel
theorem d_T_block_27 : decode b_T_block 27 = .ok (.invokestatic 33, 3) := by decide +kernel
theorem d_T_block_30 : decode b_T_block 30 = .ok (.aload_n 0, 1) := by decide +kernel
theorem d_T_block_31 : decode b_T_block 31 = .ok (.invokevirtual 36, 3) := by decide +kernel
theorem d_T_block_34 : decode b_T_block 34 = .ok (.iload_n 1, 1) := by decide +kernel
theorem d_T_block_35 : decode b_T_block 35 = .ok (.iconst 2, 1) := by decide +kernel
theorem d_T_block_36 : decode b_T_block 36 = .ok (.if_icmp .ne 15, 3) := by decide +kernel
theorem d_T_block_39 : decode b_T_block 39 = .ok (.aload_n 0, 1) := by decide +kernel
theorem d_T_block_40 : decode b_T_block 40 = .ok (.aload_n 0, 1) := by decide +kernel
theorem d_T_block_41 : decode b_T_block 41 = .ok (.getfield 39, 3) := by decide +kernel
theorem d_T_block_44 : decode b_T_block 44 = .ok (.iconst 1, 1) := by decide +kernel
theorem d_T_block_45 : decode b_T_block 45 = .ok (.invokevirtual 67, 3) := by decide +kernel
theorem d_T_block_48 : decode b_T_block 48 = .ok (.goto 7, 3) := by decide +kernel
theorem d_T_block_51 : decode b_T_block 51 = .ok (.aload_n 0, 1) := by decide +kernel
theorem d_T_block_52 : decode b_T_block 52 = .ok (.getfield 39, 3) := by decide +kernel
theorem d_T_block_55 : decode b_T_block 55 = .ok (.istore 4, 2) := by decide +kernel
theorem d_T_block_57 : decode b_T_block 57 = .ok (.aload_n 0, 1) := by decide +kernel
theorem d_T_block_58 : decode b_T_block 58 = .ok (.iload 4, 2) := by decide +kernel
theorem d_T_block_60 : decode b_T_block 60 = .ok (.iload_n 2, 1) := by decide +kernel
theorem d_T_block_61 : decode b_T_block 61 = .ok (.invokevirtual 43, 3) := by decide +kernel
theorem d_T_block_64 : decode b_T_block 64 = .ok (.istore 5, 2) := by decide +kernel
theorem d_T_block_66 : decode b_T_block 66 = .ok (.iload 5, 2) := by decide +kernel
theorem d_T_block_68 : decode b_T_block 68 = .ok (.iload_n 2, 1) := by decide +kernel
theorem d_T_block_69 : decode b_T_block 69 = .ok (.invokestatic 47, 3) := by decide +kernel
theorem d_T_block_72 : decode b_T_block 72 = .ok (.iadd, 1) := by decide +kernel
theorem d_T_block_73 : decode b_T_block 73 = .ok (.invokestatic 51, 3) := by decide +kernel
theorem d_T_block_76 : decode b_T_block 76 = .ok (.aload_n 0, 1) := by decide +kernel
theorem d_T_block_77 : decode b_T_block 77 = .ok (.getfield 79, 3) := by decide +kernel
theorem d_T_block_80 : decode b_T_block 80 = .ok (.bipush 40, 2) := by decide +kernel
theorem d_T_block_82 : decode b_T_block 82 = .ok (.if_icmp .lt 11, 3) := by decide +kernel
theorem d_T_block_85 : decode b_T_block 85 = .ok (.new 82, 3) := by decide +kernel
theorem d_T_block_88 : decode b_T_block 88 = .ok (.dup, 1) := by decide +kernel
theorem d_T_block_89 : decode b_T_block 89 = .ok (.invokespecial 84, 3) := by decide +kernel
theorem d_T_block_92 : decode b_T_block 92 = .ok (.athrow, 1) := by decide +kernel
theorem d_T_block_93 : decode b_T_block 93 = .ok (.aload_n 0, 1) := by decide +kernel
theorem d_T_block_94 : decode b_T_block 94 = .ok (.iload_n 1, 1) := by decide +kernel
theorem d_T_block_95 : decode b_T_block 95 = .ok (.iload_n 2, 1) := by decide +kernel
theorem d_T_block_96 : decode b_T_block 96 = .ok (.iload_n 3, 1) := by decide +kernel
theorem d_T_block_97 : decode b_T_block 97 = .ok (.iload 5, 2) := by decide +kernel
theorem d_T_block_99 : decode b_T_block 99 = .ok (.invokevirtual 85, 3) := by decide +kernel
theorem d_T_block_102 : decode b_T_block 102 = .ok (.aload_n 0, 1) := by decide +kernel
theorem d_T_block_103 : decode b_T_block 103 = .ok (.iload 5, 2) := by decide +kernel
theorem d_T_block_105 : decode b_T_block 105 = .ok (.iload_n 2, 1) := by decide +kernel
theorem d_T_block_106 : decode b_T_block 106 = .ok (.invokevirtual 54, 3) := by decide +kernel
theorem d_T_block_109 : decode b_T_block 109 = .ok (.aload_n 0, 1) := by decide +kernel
theorem d_T_block_110 : decode b_T_block 110 = .ok (.dup, 1) := by decide +kernel
theorem d_T_block_111 : decode b_T_block 111 = .ok (.getfield 58, 3) := by decide +kernel
theorem d_T_block_114 : decode b_T_block 114 = .ok (.iconst 1, 1) := by decide +kernel
theorem d_T_block_115 : decode b_T_block 115 = .ok (.iadd, 1) := by decide +kernel
theorem d_T_block_116 : decode b_T_block 116 = .ok (.putfield 58, 3) := by decide +kernel
theorem d_T_block_119 : decode b_T_block 119 = .ok (.aload_n 0, 1) := by decide +kernel
theorem d_T_block_120 : decode b_T_block 120 = .ok (.getfield 79, 3) := by decide +kernel
theorem d_T_block_123 : decode b_T_block 123 = .ok (.ireturn, 1) := by decide +kernel
theorem d_T_otherwise_0 : decode b_T_otherwise 0 = .ok (.aload_n 0, 1) := by decide +kernel
theorem d_T_otherwise_1 : decode b_T_otherwise 1 = .ok (.invokevirtual 36, 3) := by decide +kernel
theorem d_T_otherwise_4 : decode b_T_otherwise 4 = .ok (.aload_n 0, 1) := by decide +kernel
theorem d_T_otherwise_5 : decode b_T_otherwise 5 = .ok (.getfield 79, 3) := by decide +kernel
theorem d_T_otherwise_8 : decode b_T_otherwise 8 = .ok (.iconst 1, 1) := by decide +kernel
theorem d_T_otherwise_9 : decode b_T_otherwise 9 = .ok (.isub, 1) := by decide +kernel
theorem d_T_otherwise_10 : decode b_T_otherwise 10 = .ok (.istore_n 1, 1) := by decide +kernel
theorem d_T_otherwise_11 : decode b_T_otherwise 11 = .ok (.aload_n 0, 1) := by decide +kernel
theorem d_T_otherwise_12 : decode b_T_otherwise 12 = .ok (.getfield 13, 3) := by decide +kernel
theorem d_T_otherwise_15 : decode b_T_otherwise 15 = .ok (.iload_n 1, 1) := by decide +kernel
theorem d_T_otherwise_16 : decode b_T_otherwise 16 = .ok (.iaload, 1) := by decide +kernel
theorem d_T_otherwise_17 : decode b_T_otherwise 17 = .ok (.iconst 2, 1) := by decide +kernel
theorem d_T_otherwise_18 : decode b_T_otherwise 18 = .ok (.if_icmp .eq 11, 3) := by decide +kernel
theorem d_T_otherwise_21 : decode b_T_otherwise 21 = .ok (.new 89, 3) := by decide +kernel
theorem d_T_otherwise_24 : decode b_T_otherwise 24 = .ok (.dup, 1) := by decide +kernel
theorem d_T_otherwise_25 : decode b_T_otherwise 25 = .ok (.invokespecial 91, 3) := by decide +kernel
theorem d_T_otherwise_28 : decode b_T_otherwise 28 = .ok (.athrow, 1) := by decide +kernel
theorem d_T_otherwise_29 : decode b_T_otherwise 29 = .ok (.aload_n 0, 1) := by decide +kernel
theorem d_T_otherwise_30 : decode b_T_otherwise 30 = .ok (.invokevirtual 92, 3) := by decide +kernel
theorem d_T_otherwise_33 : decode b_T_otherwise 33 = .ok (.aload_n 0, 1) := by decide +kernel
theorem d_T_otherwise_34 : decode b_T_otherwise 34 = .ok (.getfield 13, 3) := by decide +kernel
theorem d_T_otherwise_37 : decode b_T_otherwise 37 = .ok (.iload_n 1, 1) := by decide +kernel
theorem d_T_otherwise_38 : decode b_T_otherwise 38 = .ok (.iconst 3, 1) := by decide +kernel
theorem d_T_otherwise_39 : decode b_T_otherwise 39 = .ok (.iastore, 1) := by decide +kernel
theorem d_T_otherwise_40 : decode b_T_otherwise 40 = .ok (.aload_n 0, 1) := by decide +kernel
theorem d_T_otherwise_41 : decode b_T_otherwise 41 = .ok (.getfield 25, 3) := by decide +kernel
theorem d_T_otherwise_44 : decode b_T_otherwise 44 = .ok (.iload_n 1, 1) := by decide +kernel
theorem d_T_otherwise_45 : decode b_T_otherwise 45 = .ok (.iconst 0, 1) := by decide +kernel
theorem d_T_otherwise_46 : decode b_T_otherwise 46 = .ok (.bastore, 1) := by decide +kernel
theorem d_T_otherwise_47 : decode b_T_otherwise 47 = .ok (.aload_n 0, 1) := by decide +kernel
theorem d_T_otherwise_48 : decode b_T_otherwise 48 = .ok (.aload_n 0, 1) := by decide +kernel
theorem d_T_otherwise_49 : decode b_T_otherwise 49 = .ok (.getfield 22, 3) := by decide +kernel
theorem d_T_otherwise_52 : decode b_T_otherwise 52 = .ok (.iload_n 1, 1) := by decide +kernel
theorem d_T_otherwise_53 : decode b_T_otherwise 53 = .ok (.iaload, 1) := by decide +kernel
theorem d_T_otherwise_54 : decode b_T_otherwise 54 = .ok (.aload_n 0, 1) := by decide +kernel
theorem d_T_otherwise_55 : decode b_T_otherwise 55 = .ok (.getfield 16, 3) := by decide +kernel
theorem d_T_otherwise_58 : decode b_T_otherwise 58 = .ok (.iload_n 1, 1) := by decide +kernel
theorem d_T_otherwise_59 : decode b_T_otherwise 59 = .ok (.iaload, 1) := by decide +kernel
theorem d_T_otherwise_60 : decode b_T_otherwise 60 = .ok (.invokevirtual 54, 3) := by decide +kernel
theorem d_T_otherwise_63 : decode b_T_otherwise 63 = .ok (.aload_n 0, 1) := by decide +kernel
theorem d_T_otherwise_64 : decode b_T_otherwise 64 = .ok (.dup, 1) := by decide +kernel
theorem d_T_otherwise_65 : decode b_T_otherwise 65 = .ok (.getfield 58, 3) := by decide +kernel
theorem d_T_otherwise_68 : decode b_T_otherwise 68 = .ok (.iconst 1, 1) := by decide +kernel
theorem d_T_otherwise_69 : decode b_T_otherwise 69 = .ok (.iadd, 1) := by decide +kernel
theorem d_T_otherwise_70 : decode b_T_otherwise 70 = .ok (.putfield 58, 3) := by decide +kernel
theorem d_T_otherwise_73 : decode b_T_otherwise 73 = .ok (.return_, 1) := by decide +kernel
theorem d_T_end_0 : decode b_T_end 0 = .ok (.aload_n 0, 1) := by decide +kernel
theorem d_T_end_1 : decode b_T_end 1 = .ok (.invokevirtual 36, 3) := by decide +kernel
theorem d_T_end_4 : decode b_T_end 4 = .ok (.aload_n 0, 1) := by decide +kernel
theorem d_T_end_5 : decode b_T_end 5 = .ok (.getfield 79, 3) := by decide +kernel
theorem d_T_end_8 : decode b_T_end 8 = .ok (.iconst 1, 1) := by decide +kernel
theorem d_T_end_9 : decode b_T_end 9 = .ok (.isub, 1) := by decide +kernel
theorem d_T_end_10 : decode b_T_end 10 = .ok (.istore_n 1, 1) := by decide +kernel
theorem d_T_end_11 : decode b_T_end 11 = .ok (.aload_n 0, 1) := by decide +kernel
theorem d_T_end_12 : decode b_T_end 12 = .ok (.getfield 13, 3) := by decide +kernel
theorem d_T_end_15 : decode b_T_end 15 = .ok (.iload_n 1, 1) := by decide +kernel
theorem d_T_end_16 : decode b_T_end 16 = .ok (.iaload, 1) := by decide +kernel
theorem d_T_end_17 : decode b_T_end 17 = .ok (.iconst 2, 1) := by decide +kernel
theorem d_T_end_18 : decode b_T_end 18 = .ok (.if_icmp .ne 26, 3) := by decide +kernel
theorem d_T_end_21 : decode b_T_end 21 = .ok (.aload_n 0, 1) := by decide +kernel
theorem d_T_end_22 : decode b_T_end 22 = .ok (.getfield 16, 3) := by decide +kernel
theorem d_T_end_25 : decode b_T_end 25 = .ok (.iload_n 1, 1) := by decide +kernel
theorem d_T_end_26 : decode b_T_end 26 = .ok (.iaload, 1) := by decide +kernel
theorem d_T_end_27 : decode b_T_end 27 = .ok (.aload_n 0, 1) := by decide +kernel
theorem d_T_end_28 : decode b_T_end 28 = .ok (.getfield 19, 3) := by decide +kernel
theorem d_T_end_31 : decode b_T_end 31 = .ok (.iload_n 1, 1) := by decide +kernel
theorem d_T_end_32 : decode b_T_end 32 = .ok (.iaload, 1) := by decide +kernel
theorem d_T_end_33 : decode b_T_end 33 = .ok (.if_icmp .eq 11, 3) := by decide +kernel
theorem d_T_end_36 : decode b_T_end 36 = .ok (.new 89, 3) := by decide +kernel
theorem d_T_end_39 : decode b_T_end 39 = .ok (.dup, 1) := by decide +kernel
theorem d_T_end_40 : decode b_T_end 40 = .ok (.invokespecial 91, 3) := by decide +kernel
theorem d_T_end_43 : decode b_T_end 43 = .ok (.athrow, 1) := by decide +kernel
theorem d_T_end_44 : decode b_T_end 44 = .ok (.aload_n 0, 1) := by decide +kernel
theorem d_T_end_45 : decode b_T_end 45 = .ok (.invokevirtual 92, 3) := by decide +kernel
theorem d_T_end_48 : decode b_T_end 48 = .ok (.aload_n 0, 1) := by decide +kernel
theorem d_T_end_49 : decode b_T_end 49 = .ok (.getfield 22, 3) := by decide +kernel
theorem d_T_end_52 : decode b_T_end 52 = .ok (.iload_n 1, 1) := by decide +kernel
theorem d_T_end_53 : decode b_T_end 53 = .ok (.iaload, 1) := by decide +kernel
theorem d_T_end_54 : decode b_T_end 54 = .ok (.aload_n 0, 1) := by decide +kernel
theorem d_T_end_55 : decode b_T_end 55 = .ok (.getfield 19, 3) := by decide +kernel
theorem d_T_end_58 : decode b_T_end 58 = .ok (.iload_n 1, 1) := by decide +kernel
theorem d_T_end_59 : decode b_T_end 59 = .ok (.iaload, 1) := by decide +kernel
theorem d_T_end_60 : decode b_T_end 60 = .ok (.invokestatic 47, 3) := by decide +kernel
theorem d_T_end_63 : decode b_T_end 63 = .ok (.iadd, 1) := by decide +kernel
theorem d_T_end_64 : decode b_T_end 64 = .ok (.invokestatic 51, 3) := by decide +kernel
theorem d_T_end_67 : decode b_T_end 67 = .ok (.aload_n 0, 1) := by decide +kernel
theorem d_T_end_68 : decode b_T_end 68 = .ok (.aload_n 0, 1) := by decide +kernel
theorem d_T_end_69 : decode b_T_end 69 = .ok (.getfield 22, 3) := by decide +kernel
theorem d_T_end_72 : decode b_T_end 72 = .ok (.iload_n 1, 1) := by decide +kernel
theorem d_T_end_73 : decode b_T_end 73 = .ok (.iaload, 1) := by decide +kernel
theorem d_T_end_74 : decode b_T_end 74 = .ok (.aload_n 0, 1) := by decide +kernel
theorem d_T_end_75 : decode b_T_end 75 = .ok (.getfield 19, 3) := by decide +kernel
theorem d_T_end_78 : decode b_T_end 78 = .ok (.iload_n 1, 1) := by decide +kernel
theorem d_T_end_79 : decode b_T_end 79 = .ok (.iaload, 1) := by decide +kernel
theorem d_T_end_80 : decode b_T_end 80 = .ok (.invokevirtual 54, 3) := by decide +kernel
theorem d_T_end_83 : decode b_T_end 83 = .ok (.aload_n 0, 1) := by decide +kernel
theorem d_T_end_84 : decode b_T_end 84 = .ok (.iload_n 1, 1) := by decide +kernel
theorem d_T_end_85 : decode b_T_end 85 = .ok (.putfield 79, 3) := by decide +kernel
theorem d_T_end_88 : decode b_T_end 88 = .ok (.aload_n 0, 1) := by decide +kernel
theorem d_T_end_89 : decode b_T_end 89 = .ok (.dup, 1) := by decide +kernel
theorem d_T_end_90 : decode b_T_end 90 = .ok (.getfield 58, 3) := by decide +kernel
theorem d_T_end_93 : decode b_T_end 93 = .ok (.iconst 1, 1) := by decide +kernel
theorem d_T_end_94 : decode b_T_end 94 = .ok (.iadd, 1) := by decide +kernel
theorem d_T_end_95 : decode b_T_end 95 = .ok (.putfield 58, 3) := by decide +kernel
theorem d_T_end_98 : decode b_T_end 98 = .ok (.aload_n 0, 1) := by decide +kernel
theorem d_T_end_99 : decode b_T_end 99 = .ok (.getfield 79, 3) := by decide +kernel
theorem d_T_end_102 : decode b_T_end 102 = .ok (.ireturn, 1) := by decide +kernel
theorem d_T_leap_0 : decode b_T_leap 0 = .ok (.aload_n 0, 1) := by decide +kernel
theorem d_T_leap_1 : decode b_T_leap 1 = .ok (.aload_n 0, 1) := by decide +kernel
theorem d_T_leap_2 : decode b_T_leap 2 = .ok (.iload_n 1, 1) := by decide +kernel
theorem d_T_leap_3 : decode b_T_leap 3 = .ok (.invokevirtual 95, 3) := by decide +kernel
theorem d_T_leap_6 : decode b_T_leap 6 = .ok (.invokevirtual 98, 3) := by decide +kernel
theorem d_T_leap_9 : decode b_T_leap 9 = .ok (.istore_n 2, 1) := by decide +kernel
theorem d_T_leap_10 : decode b_T_leap 10 = .ok (.aload_n 0, 1) := by decide +kernel
theorem d_T_leap_11 : decode b_T_leap 11 = .ok (.aload_n 0, 1) := by decide +kernel
theorem d_T_leap_12 : decode b_T_leap 12 = .ok (.getfield 39, 3) := by decide +kernel
theorem d_T_leap_15 : decode b_T_leap 15 = .ok (.iload_n 2, 1) := by decide +kernel
theorem d_T_leap_16 : decode b_T_leap 16 = .ok (.invokevirtual 43, 3) := by decide +kernel
theorem d_T_leap_19 : decode b_T_leap 19 = .ok (.pop, 1) := by decide +kernel
theorem d_T_leap_20 : decode b_T_leap 20 = .ok (.aload_n 0, 1) := by decide +kernel
theorem d_T_leap_21 : decode b_T_leap 21 = .ok (.invokevirtual 101, 3) := by decide +kernel
theorem d_T_leap_24 : decode b_T_leap 24 = .ok (.aload_n 0, 1) := by decide +kernel
theorem d_T_leap_25 : decode b_T_leap 25 = .ok (.dup, 1) := by decide +kernel
theorem d_T_leap_26 : decode b_T_leap 26 = .ok (.getfield 58, 3) := by decide +kernel
theorem d_T_leap_29 : decode b_T_leap 29 = .ok (.iconst 1, 1) := by decide +kernel
theorem d_T_leap_30 : decode b_T_leap 30 = .ok (.iadd, 1) := by decide +kernel
theorem d_T_leap_31 : decode b_T_leap 31 = .ok (.putfield 58, 3) := by decide +kernel
theorem d_T_leap_34 : decode b_T_leap 34 = .ok (.return_, 1) := by decide +kernel
theorem d_T_leapIf_0 : decode b_T_leapIf 0 = .ok (.aload_n 0, 1) := by decide +kernel
theorem d_T_leapIf_1 : decode b_T_leapIf 1 = .ok (.aload_n 0, 1) := by decide +kernel
theorem d_T_leapIf_2 : decode b_T_leapIf 2 = .ok (.iload_n 1, 1) := by decide +kernel
theorem d_T_leapIf_3 : decode b_T_leapIf 3 = .ok (.invokevirtual 95, 3) := by decide +kernel
theorem d_T_leapIf_6 : decode b_T_leapIf 6 = .ok (.invokevirtual 98, 3) := by decide +kernel
theorem d_T_leapIf_9 : decode b_T_leapIf 9 = .ok (.istore_n 2, 1) := by decide +kernel
theorem d_T_leapIf_10 : decode b_T_leapIf 10 = .ok (.aload_n 0, 1) := by decide +kernel
theorem d_T_leapIf_11 : decode b_T_leapIf 11 = .ok (.aload_n 0, 1) := by decide +kernel
theorem d_T_leapIf_12 : decode b_T_leapIf 12 = .ok (.aload_n 0, 1) := by decide +kernel
theorem d_T_leapIf_13 : decode b_T_leapIf 13 = .ok (.getfield 39, 3) := by decide +kernel
theorem d_T_leapIf_16 : decode b_T_leapIf 16 = .ok (.iconst 1, 1) := by decide +kernel
theorem d_T_leapIf_17 : decode b_T_leapIf 17 = .ok (.invokevirtual 67, 3) := by decide +kernel
theorem d_T_leapIf_20 : decode b_T_leapIf 20 = .ok (.iload_n 2, 1) := by decide +kernel
theorem d_T_leapIf_21 : decode b_T_leapIf 21 = .ok (.invokevirtual 43, 3) := by decide +kernel
theorem d_T_leapIf_24 : decode b_T_leapIf 24 = .ok (.istore_n 3, 1) := by decide +kernel
theorem d_T_leapIf_25 : decode b_T_leapIf 25 = .ok (.iload_n 3, 1) := by decide +kernel
theorem d_T_leapIf_26 : decode b_T_leapIf 26 = .ok (.iload_n 2, 1) := by decide +kernel
theorem d_T_leapIf_27 : decode b_T_leapIf 27 = .ok (.invokestatic 47, 3) := by decide +kernel
theorem d_T_leapIf_30 : decode b_T_leapIf 30 = .ok (.iadd, 1) := by decide +kernel
theorem d_T_leapIf_31 : decode b_T_leapIf 31 = .ok (.invokestatic 51, 3) := by decide +kernel
theorem d_T_leapIf_34 : decode b_T_leapIf 34 = .ok (.aload_n 0, 1) := by decide +kernel
theorem d_T_leapIf_35 : decode b_T_leapIf 35 = .ok (.iload_n 3, 1) := by decide +kernel
theorem d_T_leapIf_36 : decode b_T_leapIf 36 = .ok (.iload_n 2, 1) := by decide +kernel
theorem d_T_leapIf_37 : decode b_T_leapIf 37 = .ok (.invokevirtual 54, 3) := by decide +kernel
theorem d_T_leapIf_40 : decode b_T_leapIf 40 = .ok (.aload_n 0, 1) := by decide +kernel
theorem d_T_leapIf_41 : decode b_T_leapIf 41 = .ok (.dup, 1) := by decide +kernel
theorem d_T_leapIf_42 : decode b_T_leapIf 42 = .ok (.getfield 58, 3) := by decide +kernel
theorem d_T_leapIf_45 : decode b_T_leapIf 45 = .ok (.iconst 1, 1) := by decide +kernel
theorem d_T_leapIf_46 : decode b_T_leapIf 46 = .ok (.iadd, 1) := by decide +kernel
theorem d_T_leapIf_47 : decode b_T_leapIf 47 = .ok (.putfield 58, 3) := by decide +kernel
theorem d_T_leapIf_50 : decode b_T_leapIf 50 = .ok (.aload_n 0, 1) := by decide +kernel
theorem d_T_leapIf_51 : decode b_T_leapIf 51 = .ok (.getfield 39, 3) := by decide +kernel
theorem d_T_leapIf_54 : decode b_T_leapIf 54 = .ok (.ireturn, 1) := by decide +kernel
theorem d_T_table_0 : decode b_T_table 0 = .ok (.aload_n 0, 1) := by decide +kernel
theorem d_T_table_1 : decode b_T_table 1 = .ok (.aload_n 0, 1) := by decide +kernel
theorem d_T_table_2 : decode b_T_table 2 = .ok (.iload_n 1, 1) := by decide +kernel
theorem d_T_table_3 : decode b_T_table 3 = .ok (.invokevirtual 95, 3) := by decide +kernel
theorem d_T_table_6 : decode b_T_table 6 = .ok (.invokevirtual 98, 3) := by decide +kernel
theorem d_T_table_9 : decode b_T_table 9 = .ok (.istore_n 3, 1) := by decide +kernel
theorem d_T_table_10 : decode b_T_table 10 = .ok (.aload_n 0, 1) := by decide +kernel
theorem d_T_table_11 : decode b_T_table 11 = .ok (.aload_n 0, 1) := by decide +kernel
theorem d_T_table_12 : decode b_T_table 12 = .ok (.iload_n 2, 1) := by decide +kernel
theorem d_T_table_13 : decode b_T_table 13 = .ok (.invokevirtual 95, 3) := by decide +kernel
theorem d_T_table_16 : decode b_T_table 16 = .ok (.invokevirtual 98, 3) := by decide +kernel
theorem d_T_table_19 : decode b_T_table 19 = .ok (.istore 4, 2) := by decide +kernel
theorem d_T_table_21 : decode b_T_table 21 = .ok (.iload_n 3, 1) := by decide +kernel
theorem d_T_table_22 : decode b_T_table 22 = .ok (.invokestatic 47, 3) := by decide +kernel
theorem d_T_table_25 : decode b_T_table 25 = .ok (.iload 4, 2) := by decide +kernel
theorem d_T_table_27 : decode b_T_table 27 = .ok (.invokestatic 47, 3) := by decide +kernel
theorem d_T_table_30 : decode b_T_table 30 = .ok (.if_icmp .eq 11, 3) := by decide +kernel
theorem d_T_table_33 : decode b_T_table 33 = .ok (.new 89, 3) := by decide +kernel
theorem d_T_table_36 : decode b_T_table 36 = .ok (.dup, 1) := by decide +kernel
theorem d_T_table_37 : decode b_T_table 37 = .ok (.invokespecial 91, 3) := by decide +kernel
theorem d_T_table_40 : decode b_T_table 40 = .ok (.athrow, 1) := by decide +kernel
theorem d_T_table_41 : decode b_T_table 41 = .ok (.aload_n 0, 1) := by decide +kernel
theorem d_T_table_42 : decode b_T_table 42 = .ok (.aload_n 0, 1) := by decide +kernel
theorem d_T_table_43 : decode b_T_table 43 = .ok (.getfield 39, 3) := by decide +kernel
theorem d_T_table_46 : decode b_T_table 46 = .ok (.iconst 1, 1) := by decide +kernel
theorem d_T_table_47 : decode b_T_table 47 = .ok (.invokevirtual 67, 3) := by decide +kernel
theorem d_T_table_50 : decode b_T_table 50 = .ok (.istore 5, 2) := by decide +kernel
theorem d_T_table_52 : decode b_T_table 52 = .ok (.aload_n 0, 1) := by decide +kernel
theorem d_T_table_53 : decode b_T_table 53 = .ok (.iload 5, 2) := by decide +kernel
theorem d_T_table_55 : decode b_T_table 55 = .ok (.iload_n 3, 1) := by decide +kernel
theorem d_T_table_56 : decode b_T_table 56 = .ok (.invokevirtual 43, 3) := by decide +kernel
theorem d_T_table_59 : decode b_T_table 59 = .ok (.pop, 1) := by decide +kernel
theorem d_T_table_60 : decode b_T_table 60 = .ok (.aload_n 0, 1) := by decide +kernel
theorem d_T_table_61 : decode b_T_table 61 = .ok (.iload 5, 2) := by decide +kernel
theorem d_T_table_63 : decode b_T_table 63 = .ok (.iload 4, 2) := by decide +kernel
theorem d_T_table_65 : decode b_T_table 65 = .ok (.invokevirtual 43, 3) := by decide +kernel
theorem d_T_table_68 : decode b_T_table 68 = .ok (.pop, 1) := by decide +kernel
theorem d_T_table_69 : decode b_T_table 69 = .ok (.aload_n 0, 1) := by decide +kernel
theorem d_T_table_70 : decode b_T_table 70 = .ok (.invokevirtual 101, 3) := by decide +kernel
theorem d_T_table_73 : decode b_T_table 73 = .ok (.aload_n 0, 1) := by decide +kernel
theorem d_T_table_74 : decode b_T_table 74 = .ok (.dup, 1) := by decide +kernel
theorem d_T_table_75 : decode b_T_table 75 = .ok (.getfield 58, 3) := by decide +kernel
theorem d_T_table_78 : decode b_T_table 78 = .ok (.iconst 1, 1) := by decide +kernel
theorem d_T_table_79 : decode b_T_table 79 = .ok (.iadd, 1) := by decide +kernel
theorem d_T_table_80 : decode b_T_table 80 = .ok (.putfield 58, 3) := by decide +kernel
theorem d_T_table_83 : decode b_T_table 83 = .ok (.return_, 1) := by decide +kernel
theorem d_T_back_0 : decode b_T_back 0 = .ok (.aload_n 0, 1) := by decide +kernel
theorem d_T_back_1 : decode b_T_back 1 = .ok (.invokevirtual 36, 3) := by decide +kernel
theorem d_T_back_4 : decode b_T_back 4 = .ok (.aload_n 0, 1) := by decide +kernel
theorem d_T_back_5 : decode b_T_back 5 = .ok (.aload_n 0, 1) := by decide +kernel
theorem d_T_back_6 : decode b_T_back 6 = .ok (.getfield 39, 3) := by decide +kernel
theorem d_T_back_9 : decode b_T_back 9 = .ok (.aload_n 0, 1) := by decide +kernel
theorem d_T_back_10 : decode b_T_back 10 = .ok (.getfield 19, 3) := by decide +kernel
theorem d_T_back_13 : decode b_T_back 13 = .ok (.iconst 0, 1) := by decide +kernel
theorem d_T_back_14 : decode b_T_back 14 = .ok (.iaload, 1) := by decide +kernel
theorem d_T_back_15 : decode b_T_back 15 = .ok (.invokevirtual 43, 3) := by decide +kernel
theorem d_T_back_18 : decode b_T_back 18 = .ok (.pop, 1) := by decide +kernel
theorem d_T_back_19 : decode b_T_back 19 = .ok (.aload_n 0, 1) := by decide +kernel
theorem d_T_back_20 : decode b_T_back 20 = .ok (.invokevirtual 101, 3) := by decide +kernel
theorem d_T_back_23 : decode b_T_back 23 = .ok (.aload_n 0, 1) := by decide +kernel
theorem d_T_back_24 : decode b_T_back 24 = .ok (.dup, 1) := by decide +kernel
theorem d_T_back_25 : decode b_T_back 25 = .ok (.getfield 58, 3) := by decide +kernel
theorem d_T_back_28 : decode b_T_back 28 = .ok (.iconst 1, 1) := by decide +kernel
theorem d_T_back_29 : decode b_T_back 29 = .ok (.iadd, 1) := by decide +kernel
theorem d_T_back_30 : decode b_T_back 30 = .ok (.putfield 58, 3) := by decide +kernel
theorem d_T_back_33 : decode b_T_back 33 = .ok (.return_, 1) := by decide +kernel
