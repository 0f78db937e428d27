theorem d_M_select_0 : decode b_M_select 0 = .ok (.aload_n 0, 1) := by decide +kernel
theorem d_M_select_1 : decode b_M_select 1 = .ok (.aload_n 0, 1) := by decide +kernel
theorem d_M_select_2 : decode b_M_select 2 = .ok (.getfield 43, 3) := by decide +kernel
theorem d_M_select_5 : decode b_M_select 5 = .ok (.ifCond .ne 7, 3) := by decide +kernel
theorem d_M_select_8 : decode b_M_select 8 = .ok (.iconst 1, 1) := by decide +kernel
theorem d_M_select_9 : decode b_M_select 9 = .ok (.goto 4, 3) := by decide +kernel
theorem d_M_select_12 : decode b_M_select 12 = .ok (.iconst 0, 1) := by decide +kernel
theorem d_M_select_13 : decode b_M_select 13 = .ok (.putfield 36, 3) := by decide +kernel
theorem d_M_select_16 : decode b_M_select 16 = .ok (.aload_n 0, 1) := by decide +kernel
theorem d_M_select_17 : decode b_M_select 17 = .ok (.getfield 36, 3) := by decide +kernel
theorem d_M_select_20 : decode b_M_select 20 = .ok (.ifCond .le 5, 3) := by decide +kernel
theorem d_M_select_23 : decode b_M_select 23 = .ok (.iconst 0, 1) := by decide +kernel
theorem d_M_select_24 : decode b_M_select 24 = .ok (.ireturn, 1) := by decide +kernel
theorem d_M_select_25 : decode b_M_select 25 = .ok (.aload_n 0, 1) := by decide +kernel
theorem d_M_select_26 : decode b_M_select 26 = .ok (.invokevirtual 84, 3) := by decide +kernel
theorem d_M_select_29 : decode b_M_select 29 = .ok (.aload_n 0, 1) := by decide +kernel
theorem d_M_select_30 : decode b_M_select 30 = .ok (.iconst 1, 1) := by decide +kernel
theorem d_M_select_31 : decode b_M_select 31 = .ok (.invokevirtual 75, 3) := by decide +kernel
theorem d_M_select_34 : decode b_M_select 34 = .ok (.aload_n 0, 1) := by decide +kernel
theorem d_M_select_35 : decode b_M_select 35 = .ok (.invokevirtual 72, 3) := by decide +kernel
theorem d_M_select_38 : decode b_M_select 38 = .ok (.aload_n 0, 1) := by decide +kernel
theorem d_M_select_39 : decode b_M_select 39 = .ok (.getfield 65, 3) := by decide +kernel
theorem d_M_select_42 : decode b_M_select 42 = .ok (.istore_n 1, 1) := by decide +kernel
theorem d_M_select_43 : decode b_M_select 43 = .ok (.aload_n 0, 1) := by decide +kernel
theorem d_M_select_44 : decode b_M_select 44 = .ok (.invokevirtual 72, 3) := by decide +kernel
theorem d_M_select_47 : decode b_M_select 47 = .ok (.aload_n 0, 1) := by decide +kernel
theorem d_M_select_48 : decode b_M_select 48 = .ok (.getfield 65, 3) := by decide +kernel
theorem d_M_select_51 : decode b_M_select 51 = .ok (.istore_n 2, 1) := by decide +kernel
theorem d_M_select_52 : decode b_M_select 52 = .ok (.aload_n 0, 1) := by decide +kernel
theorem d_M_select_53 : decode b_M_select 53 = .ok (.getfield 55, 3) := by decide +kernel
theorem d_M_select_56 : decode b_M_select 56 = .ok (.ifCond .eq 9, 3) := by decide +kernel
theorem d_M_select_59 : decode b_M_select 59 = .ok (.aload_n 0, 1) := by decide +kernel
theorem d_M_select_60 : decode b_M_select 60 = .ok (.iconst 2, 1) := by decide +kernel
theorem d_M_select_61 : decode b_M_select 61 = .ok (.invokevirtual 90, 3) := by decide +kernel
theorem d_M_select_64 : decode b_M_select 64 = .ok (.ireturn, 1) := by decide +kernel
theorem d_M_select_65 : decode b_M_select 65 = .ok (.iload_n 1, 1) := by decide +kernel
theorem d_M_select_66 : decode b_M_select 66 = .ok (.ifCond .ne 7, 3) := by decide +kernel
theorem d_M_select_69 : decode b_M_select 69 = .ok (.iload_n 2, 1) := by decide +kernel
theorem d_M_select_70 : decode b_M_select 70 = .ok (.goto 4, 3) := by decide +kernel
theorem d_M_select_73 : decode b_M_select 73 = .ok (.iload_n 1, 1) := by decide +kernel
theorem d_M_select_74 : decode b_M_select 74 = .ok (.istore_n 3, 1) := by decide +kernel
theorem d_M_select_75 : decode b_M_select 75 = .ok (.iload_n 1, 1) := by decide +kernel
theorem d_M_select_76 : decode b_M_select 76 = .ok (.ifCond .eq 12, 3) := by decide +kernel
theorem d_M_select_79 : decode b_M_select 79 = .ok (.iload_n 2, 1) := by decide +kernel
theorem d_M_select_80 : decode b_M_select 80 = .ok (.ifCond .eq 8, 3) := by decide +kernel
theorem d_M_select_83 : decode b_M_select 83 = .ok (.iload_n 1, 1) := by decide +kernel
theorem d_M_select_84 : decode b_M_select 84 = .ok (.iload_n 2, 1) := by decide +kernel
theorem d_M_select_85 : decode b_M_select 85 = .ok (.if_icmp .ne 8, 3) := by decide +kernel
theorem d_M_select_88 : decode b_M_select 88 = .ok (.iload_n 3, 1) := by decide +kernel
theorem d_M_select_89 : decode b_M_select 89 = .ok (.iconst 4, 1) := by decide +kernel
theorem d_M_select_90 : decode b_M_select 90 = .ok (.if_icmp .ne 9, 3) := by decide +kernel
theorem d_M_select_93 : decode b_M_select 93 = .ok (.aload_n 0, 1) := by decide +kernel
theorem d_M_select_94 : decode b_M_select 94 = .ok (.iconst 3, 1) := by decide +kernel
theorem d_M_select_95 : decode b_M_select 95 = .ok (.invokevirtual 90, 3) := by decide +kernel
theorem d_M_select_98 : decode b_M_select 98 = .ok (.ireturn, 1) := by decide +kernel
theorem d_M_select_99 : decode b_M_select 99 = .ok (.aload_n 0, 1) := by decide +kernel
theorem d_M_select_100 : decode b_M_select 100 = .ok (.iload_n 3, 1) := by decide +kernel
theorem d_M_select_101 : decode b_M_select 101 = .ok (.invokevirtual 77, 3) := by decide +kernel
theorem d_M_select_104 : decode b_M_select 104 = .ok (.aload_n 0, 1) := by decide +kernel
theorem d_M_select_105 : decode b_M_select 105 = .ok (.getfield 40, 3) := by decide +kernel
theorem d_M_select_108 : decode b_M_select 108 = .ok (.sipush 300, 3) := by decide +kernel
theorem d_M_select_111 : decode b_M_select 111 = .ok (.if_icmp .le 9, 3) := by decide +kernel
theorem d_M_select_114 : decode b_M_select 114 = .ok (.aload_n 0, 1) := by decide +kernel
theorem d_M_select_115 : decode b_M_select 115 = .ok (.iconst 4, 1) := by decide +kernel
theorem d_M_select_116 : decode b_M_select 116 = .ok (.invokevirtual 90, 3) := by decide +kernel
theorem d_M_select_119 : decode b_M_select 119 = .ok (.ireturn, 1) := by decide +kernel
theorem d_M_select_120 : decode b_M_select 120 = .ok (.aload_n 0, 1) := by decide +kernel
theorem d_M_select_121 : decode b_M_select 121 = .ok (.invokevirtual 97, 3) := by decide +kernel
theorem d_M_select_124 : decode b_M_select 124 = .ok (.iload_n 3, 1) := by decide +kernel
theorem d_M_select_125 : decode b_M_select 125 = .ok (.ireturn, 1) := by decide +kernel
theorem d_M_block_0 : decode b_M_block 0 = .ok (.aload_n 0, 1) := by decide +kernel
theorem d_M_block_1 : decode b_M_block 1 = .ok (.iload_n 1, 1) := by decide +kernel
theorem d_M_block_2 : decode b_M_block 2 = .ok (.ifCond .lt 22, 3) := by decide +kernel
theorem d_M_block_5 : decode b_M_block 5 = .ok (.iload_n 1, 1) := by decide +kernel
theorem d_M_block_6 : decode b_M_block 6 = .ok (.iconst 2, 1) := by decide +kernel
theorem d_M_block_7 : decode b_M_block 7 = .ok (.if_icmp .gt 17, 3) := by decide +kernel
theorem d_M_block_10 : decode b_M_block 10 = .ok (.iload_n 2, 1) := by decide +kernel
theorem d_M_block_11 : decode b_M_block 11 = .ok (.invokestatic 80, 3) := by decide +kernel
theorem d_M_block_14 : decode b_M_block 14 = .ok (.ifCond .eq 10, 3) := by decide +kernel
theorem d_M_block_17 : decode b_M_block 17 = .ok (.iload_n 3, 1) := by decide +kernel
theorem d_M_block_18 : decode b_M_block 18 = .ok (.invokestatic 80, 3) := by decide +kernel
theorem d_M_block_21 : decode b_M_block 21 = .ok (.ifCond .ne 7, 3) := by decide +kernel
theorem d_M_block_24 : decode b_M_block 24 = .ok (.iconst 1, 1) := by decide +kernel
theorem d_M_block_25 : decode b_M_block 25 = .ok (.goto 15, 3) := by decide +kernel
theorem d_M_block_28 : decode b_M_block 28 = .ok (.aload_n 0, 1) := by decide +kernel
theorem d_M_block_29 : decode b_M_block 29 = .ok (.getfield 43, 3) := by decide +kernel
theorem d_M_block_32 : decode b_M_block 32 = .ok (.ifCond .ne 7, 3) := by decide +kernel
theorem d_M_block_35 : decode b_M_block 35 = .ok (.iconst 2, 1) := by decide +kernel
theorem d_M_block_36 : decode b_M_block 36 = .ok (.goto 4, 3) := by decide +kernel
theorem d_M_block_39 : decode b_M_block 39 = .ok (.iconst 0, 1) := by decide +kernel
theorem d_M_block_40 : decode b_M_block 40 = .ok (.putfield 36, 3) := by decide +kernel
theorem d_M_block_43 : decode b_M_block 43 = .ok (.aload_n 0, 1) := by decide +kernel
theorem d_M_block_44 : decode b_M_block 44 = .ok (.getfield 36, 3) := by decide +kernel
theorem d_M_block_47 : decode b_M_block 47 = .ok (.ifCond .le 5, 3) := by decide +kernel
theorem d_M_block_50 : decode b_M_block 50 = .ok (.iconst 0, 1) := by decide +kernel
theorem d_M_block_51 : decode b_M_block 51 = .ok (.ireturn, 1) := by decide +kernel
theorem d_M_block_52 : decode b_M_block 52 = .ok (.aload_n 0, 1) := by decide +kernel
theorem d_M_block_53 : decode b_M_block 53 = .ok (.invokevirtual 84, 3) := by decide +kernel
theorem d_M_block_56 : decode b_M_block 56 = .ok (.iload_n 1, 1) := by decide +kernel
theorem d_M_block_57 : decode b_M_block 57 = .ok (.iconst 2, 1) := by decide +kernel
theorem d_M_block_58 : decode b_M_block 58 = .ok (.if_icmp .ne 8, 3) := by decide +kernel
theorem d_M_block_61 : decode b_M_block 61 = .ok (.aload_n 0, 1) := by decide +kernel
theorem d_M_block_62 : decode b_M_block 62 = .ok (.iconst 1, 1) := by decide +kernel
theorem d_M_block_63 : decode b_M_block 63 = .ok (.invokevirtual 75, 3) := by decide +kernel
theorem d_M_block_66 : decode b_M_block 66 = .ok (.aload_n 0, 1) := by decide +kernel
theorem d_M_block_67 : decode b_M_block 67 = .ok (.iload_n 2, 1) := by decide +kernel
theorem d_M_block_68 : decode b_M_block 68 = .ok (.invokevirtual 87, 3) := by decide +kernel
theorem d_M_block_71 : decode b_M_block 71 = .ok (.aload_n 0, 1) := by decide +kernel
theorem d_M_block_72 : decode b_M_block 72 = .ok (.getfield 55, 3) := by decide +kernel
theorem d_M_block_75 : decode b_M_block 75 = .ok (.ifCond .eq 9, 3) := by decide +kernel
theorem d_M_block_78 : decode b_M_block 78 = .ok (.aload_n 0, 1) := by decide +kernel
theorem d_M_block_79 : decode b_M_block 79 = .ok (.iconst 3, 1) := by decide +kernel
theorem d_M_block_80 : decode b_M_block 80 = .ok (.invokevirtual 90, 3) := by decide +kernel
theorem d_M_block_83 : decode b_M_block 83 = .ok (.ireturn, 1) := by decide +kernel
theorem d_M_block_84 : decode b_M_block 84 = .ok (.aload_n 0, 1) := by decide +kernel
theorem d_M_block_85 : decode b_M_block 85 = .ok (.getfield 43, 3) := by decide +kernel
theorem d_M_block_88 : decode b_M_block 88 = .ok (.bipush 40, 2) := by decide +kernel
theorem d_M_block_90 : decode b_M_block 90 = .ok (.if_icmp .eq 18, 3) := by decide +kernel
theorem d_M_block_93 : decode b_M_block 93 = .ok (.aload_n 0, 1) := by decide +kernel
theorem d_M_block_94 : decode b_M_block 94 = .ok (.getfield 40, 3) := by decide +kernel
theorem d_M_block_97 : decode b_M_block 97 = .ok (.iload_n 2, 1) := by decide +kernel
theorem d_M_block_98 : decode b_M_block 98 = .ok (.invokestatic 100, 3) := by decide +kernel
theorem d_M_block_101 : decode b_M_block 101 = .ok (.iadd, 1) := by decide +kernel
theorem d_M_block_102 : decode b_M_block 102 = .ok (.sipush 300, 3) := by decide +kernel
theorem d_M_block_105 : decode b_M_block 105 = .ok (.if_icmp .le 9, 3) := by decide +kernel
theorem d_M_block_108 : decode b_M_block 108 = .ok (.aload_n 0, 1) := by decide +kernel
theorem d_M_block_109 : decode b_M_block 109 = .ok (.iconst 4, 1) := by decide +kernel
theorem d_M_block_110 : decode b_M_block 110 = .ok (.invokevirtual 90, 3) := by decide +kernel
theorem d_M_block_113 : decode b_M_block 113 = .ok (.ireturn, 1) := by decide +kernel
theorem d_M_block_114 : decode b_M_block 114 = .ok (.aload_n 0, 1) := by decide +kernel
theorem d_M_block_115 : decode b_M_block 115 = .ok (.getfield 13, 3) := by decide +kernel
theorem d_M_block_118 : decode b_M_block 118 = .ok (.aload_n 0, 1) := by decide +kernel
theorem d_M_block_119 : decode b_M_block 119 = .ok (.getfield 43, 3) := by decide +kernel
theorem d_M_block_122 : decode b_M_block 122 = .ok (.iload_n 1, 1) := by decide +kernel
theorem d_M_block_123 : decode b_M_block 123 = .ok (.iastore, 1) := by decide +kernel
theorem d_M_block_124 : decode b_M_block 124 = .ok (.aload_n 0, 1) := by decide +kernel
theorem d_M_block_125 : decode b_M_block 125 = .ok (.getfield 16, 3) := by decide +kernel
theorem d_M_block_128 : decode b_M_block 128 = .ok (.aload_n 0, 1) := by decide +kernel
theorem d_M_block_129 : decode b_M_block 129 = .ok (.getfield 43, 3) := by decide +kernel
theorem d_M_block_132 : decode b_M_block 132 = .ok (.iload_n 2, 1) := by decide +kernel
theorem d_M_block_133 : decode b_M_block 133 = .ok (.iastore, 1) := by decide +kernel
theorem d_M_block_134 : decode b_M_block 134 = .ok (.aload_n 0, 1) := by decide +kernel
theorem d_M_block_135 : decode b_M_block 135 = .ok (.getfield 19, 3) := by decide +kernel
theorem d_M_block_138 : decode b_M_block 138 = .ok (.aload_n 0, 1) := by decide +kernel
theorem d_M_block_139 : decode b_M_block 139 = .ok (.getfield 43, 3) := by decide +kernel
theorem d_M_block_142 : decode b_M_block 142 = .ok (.iload_n 3, 1) := by decide +kernel
theorem d_M_block_143 : decode b_M_block 143 = .ok (.iastore, 1) := by decide +kernel
theorem d_M_block_144 : decode b_M_block 144 = .ok (.aload_n 0, 1) := by decide +kernel
theorem d_M_block_145 : decode b_M_block 145 = .ok (.getfield 22, 3) := by decide +kernel
theorem d_M_block_148 : decode b_M_block 148 = .ok (.aload_n 0, 1) := by decide +kernel
theorem d_M_block_149 : decode b_M_block 149 = .ok (.getfield 43, 3) := by decide +kernel
theorem d_M_block_152 : decode b_M_block 152 = .ok (.aload_n 0, 1) := by decide +kernel
theorem d_M_block_153 : decode b_M_block 153 = .ok (.getfield 40, 3) := by decide +kernel
theorem d_M_block_156 : decode b_M_block 156 = .ok (.iastore, 1) := by decide +kernel
theorem d_M_block_157 : decode b_M_block 157 = .ok (.aload_n 0, 1) := by decide +kernel
theorem d_M_block_158 : decode b_M_block 158 = .ok (.getfield 25, 3) := by decide +kernel
theorem d_M_block_161 : decode b_M_block 161 = .ok (.aload_n 0, 1) := by decide +kernel
theorem d_M_block_162 : decode b_M_block 162 = .ok (.getfield 43, 3) := by decide +kernel
theorem d_M_block_165 : decode b_M_block 165 = .ok (.iconst 0, 1) := by decide +kernel
theorem d_M_block_166 : decode b_M_block 166 = .ok (.bastore, 1) := by decide +kernel
theorem d_M_block_167 : decode b_M_block 167 = .ok (.aload_n 0, 1) := by decide +kernel
theorem d_M_block_168 : decode b_M_block 168 = .ok (.dup, 1) := by decide +kernel
theorem d_M_block_169 : decode b_M_block 169 = .ok (.getfield 43, 3) := by decide +kernel
theorem d_M_block_172 : decode b_M_block 172 = .ok (.iconst 1, 1) := by decide +kernel
theorem d_M_block_173 : decode b_M_block 173 = .ok (.iadd, 1) := by decide +kernel
theorem d_M_block_174 : decode b_M_block 174 = .ok (.putfield 43, 3) := by decide +kernel
theorem d_M_block_177 : decode b_M_block 177 = .ok (.aload_n 0, 1) := by decide +kernel
theorem d_M_block_178 : decode b_M_block 178 = .ok (.iload_n 2, 1) := by decide +kernel
theorem d_M_block_179 : decode b_M_block 179 = .ok (.invokevirtual 94, 3) := by decide +kernel
theorem d_M_block_182 : decode b_M_block 182 = .ok (.aload_n 0, 1) := by decide +kernel
theorem d_M_block_183 : decode b_M_block 183 = .ok (.invokevirtual 97, 3) := by decide +kernel
theorem d_M_block_186 : decode b_M_block 186 = .ok (.aload_n 0, 1) := by decide +kernel
theorem d_M_block_187 : decode b_M_block 187 = .ok (.getfield 43, 3) := by decide +kernel
theorem d_M_block_190 : decode b_M_block 190 = .ok (.ireturn, 1) := by decide +kernel
theorem d_M_otherwise_0 : decode b_M_otherwise 0 = .ok (.aload_n 0, 1) := by decide +kernel
theorem d_M_otherwise_1 : decode b_M_otherwise 1 = .ok (.aload_n 0, 1) := by decide +kernel
theorem d_M_otherwise_2 : decode b_M_otherwise 2 = .ok (.getfield 43, 3) := by decide +kernel
theorem d_M_otherwise_5 : decode b_M_otherwise 5 = .ok (.ifCond .ne 7, 3) := by decide +kernel
theorem d_M_otherwise_8 : decode b_M_otherwise 8 = .ok (.iconst 1, 1) := by decide +kernel
theorem d_M_otherwise_9 : decode b_M_otherwise 9 = .ok (.goto 21, 3) := by decide +kernel
theorem d_M_otherwise_12 : decode b_M_otherwise 12 = .ok (.aload_n 0, 1) := by decide +kernel
theorem d_M_otherwise_13 : decode b_M_otherwise 13 = .ok (.getfield 13, 3) := by decide +kernel
theorem d_M_otherwise_16 : decode b_M_otherwise 16 = .ok (.aload_n 0, 1) := by decide +kernel
theorem d_M_otherwise_17 : decode b_M_otherwise 17 = .ok (.invokevirtual 68, 3) := by decide +kernel
theorem d_M_otherwise_20 : decode b_M_otherwise 20 = .ok (.iaload, 1) := by decide +kernel
theorem d_M_otherwise_21 : decode b_M_otherwise 21 = .ok (.iconst 2, 1) := by decide +kernel
theorem d_M_otherwise_22 : decode b_M_otherwise 22 = .ok (.if_icmp .eq 7, 3) := by decide +kernel
theorem d_M_otherwise_25 : decode b_M_otherwise 25 = .ok (.iconst 2, 1) := by decide +kernel
theorem d_M_otherwise_26 : decode b_M_otherwise 26 = .ok (.goto 4, 3) := by decide +kernel
theorem d_M_otherwise_29 : decode b_M_otherwise 29 = .ok (.iconst 0, 1) := by decide +kernel
theorem d_M_otherwise_30 : decode b_M_otherwise 30 = .ok (.putfield 36, 3) := by decide +kernel
theorem d_M_otherwise_33 : decode b_M_otherwise 33 = .ok (.aload_n 0, 1) := by decide +kernel
theorem d_M_otherwise_34 : decode b_M_otherwise 34 = .ok (.getfield 36, 3) := by decide +kernel
theorem d_M_otherwise_37 : decode b_M_otherwise 37 = .ok (.ifCond .le 4, 3) := by decide +kernel
theorem d_M_otherwise_40 : decode b_M_otherwise 40 = .ok (.return_, 1) := by decide +kernel
theorem d_M_otherwise_41 : decode b_M_otherwise 41 = .ok (.aload_n 0, 1) := by decide +kernel
theorem d_M_otherwise_42 : decode b_M_otherwise 42 = .ok (.invokevirtual 84, 3) := by decide +kernel
theorem d_M_otherwise_45 : decode b_M_otherwise 45 = .ok (.aload_n 0, 1) := by decide +kernel
theorem d_M_otherwise_46 : decode b_M_otherwise 46 = .ok (.aload_n 0, 1) := by decide +kernel
theorem d_M_otherwise_47 : decode b_M_otherwise 47 = .ok (.getfield 19, 3) := by decide +kernel
theorem d_M_otherwise_50 : decode b_M_otherwise 50 = .ok (.aload_n 0, 1) := by decide +kernel
theorem d_M_otherwise_51 : decode b_M_otherwise 51 = .ok (.invokevirtual 68, 3) := by decide +kernel
theorem d_M_otherwise_54 : decode b_M_otherwise 54 = .ok (.iaload, 1) := by decide +kernel
theorem d_M_otherwise_55 : decode b_M_otherwise 55 = .ok (.invokevirtual 87, 3) := by decide +kernel
theorem d_M_otherwise_58 : decode b_M_otherwise 58 = .ok (.aload_n 0, 1) := by decide +kernel
theorem d_M_otherwise_59 : decode b_M_otherwise 59 = .ok (.getfield 55, 3) := by decide +kernel
theorem d_M_otherwise_62 : decode b_M_otherwise 62 = .ok (.ifCond .ne 19, 3) := by decide +kernel
theorem d_M_otherwise_65 : decode b_M_otherwise 65 = .ok (.aload_n 0, 1) := by decide +kernel
theorem d_M_otherwise_66 : decode b_M_otherwise 66 = .ok (.getfield 40, 3) := by decide +kernel
theorem d_M_otherwise_69 : decode b_M_otherwise 69 = .ok (.aload_n 0, 1) := by decide +kernel
theorem d_M_otherwise_70 : decode b_M_otherwise 70 = .ok (.getfield 22, 3) := by decide +kernel
theorem d_M_otherwise_73 : decode b_M_otherwise 73 = .ok (.aload_n 0, 1) := by decide +kernel
theorem d_M_otherwise_74 : decode b_M_otherwise 74 = .ok (.invokevirtual 68, 3) := by decide +kernel
theorem d_M_otherwise_77 : decode b_M_otherwise 77 = .ok (.iaload, 1) := by decide +kernel
theorem d_M_otherwise_78 : decode b_M_otherwise 78 = .ok (.if_icmp .le 10, 3) := by decide +kernel
theorem d_M_otherwise_81 : decode b_M_otherwise 81 = .ok (.aload_n 0, 1) := by decide +kernel
theorem d_M_otherwise_82 : decode b_M_otherwise 82 = .ok (.iconst 3, 1) := by decide +kernel
theorem d_M_otherwise_83 : decode b_M_otherwise 83 = .ok (.invokevirtual 90, 3) := by decide +kernel
theorem d_M_otherwise_86 : decode b_M_otherwise 86 = .ok (.pop, 1) := by decide +kernel
theorem d_M_otherwise_87 : decode b_M_otherwise 87 = .ok (.return_, 1) := by decide +kernel
theorem d_M_otherwise_88 : decode b_M_otherwise 88 = .ok (.aload_n 0, 1) := by decide +kernel
theorem d_M_otherwise_89 : decode b_M_otherwise 89 = .ok (.getfield 13, 3) := by decide +kernel
theorem d_M_otherwise_92 : decode b_M_otherwise 92 = .ok (.aload_n 0, 1) := by decide +kernel
theorem d_M_otherwise_93 : decode b_M_otherwise 93 = .ok (.invokevirtual 68, 3) := by decide +kernel
theorem d_M_otherwise_96 : decode b_M_otherwise 96 = .ok (.iconst 3, 1) := by decide +kernel
theorem d_M_otherwise_97 : decode b_M_otherwise 97 = .ok (.iastore, 1) := by decide +kernel
theorem d_M_otherwise_98 : decode b_M_otherwise 98 = .ok (.aload_n 0, 1) := by decide +kernel
theorem d_M_otherwise_99 : decode b_M_otherwise 99 = .ok (.getfield 25, 3) := by decide +kernel
theorem d_M_otherwise_102 : decode b_M_otherwise 102 = .ok (.aload_n 0, 1) := by decide +kernel
theorem d_M_otherwise_103 : decode b_M_otherwise 103 = .ok (.invokevirtual 68, 3) := by decide +kernel
theorem d_M_otherwise_106 : decode b_M_otherwise 106 = .ok (.iconst 0, 1) := by decide +kernel
theorem d_M_otherwise_107 : decode b_M_otherwise 107 = .ok (.bastore, 1) := by decide +kernel
theorem d_M_otherwise_108 : decode b_M_otherwise 108 = .ok (.aload_n 0, 1) := by decide +kernel
theorem d_M_otherwise_109 : decode b_M_otherwise 109 = .ok (.aload_n 0, 1) := by decide +kernel
theorem d_M_otherwise_110 : decode b_M_otherwise 110 = .ok (.getfield 16, 3) := by decide +kernel
theorem d_M_otherwise_113 : decode b_M_otherwise 113 = .ok (.aload_n 0, 1) := by decide +kernel
theorem d_M_otherwise_114 : decode b_M_otherwise 114 = .ok (.invokevirtual 68, 3) := by decide +kernel
theorem d_M_otherwise_117 : decode b_M_otherwise 117 = .ok (.iaload, 1) := by decide +kernel
theorem d_M_otherwise_118 : decode b_M_otherwise 118 = .ok (.invokevirtual 94, 3) := by decide +kernel
theorem d_M_otherwise_121 : decode b_M_otherwise 121 = .ok (.aload_n 0, 1) := by decide +kernel
theorem d_M_otherwise_122 : decode b_M_otherwise 122 = .ok (.invokevirtual 97, 3) := by decide +kernel
theorem d_M_otherwise_125 : decode b_M_otherwise 125 = .ok (.return_, 1) := by decide +kernel
theorem d_M_end_0 : decode b_M_end 0 = .ok (.aload_n 0, 1) := by decide +kernel
theorem d_M_end_1 : decode b_M_end 1 = .ok (.aload_n 0, 1) := by decide +kernel
theorem d_M_end_2 : decode b_M_end 2 = .ok (.getfield 43, 3) := by decide +kernel
theorem d_M_end_5 : decode b_M_end 5 = .ok (.ifCond .ne 7, 3) := by decide +kernel
theorem d_M_end_8 : decode b_M_end 8 = .ok (.iconst 1, 1) := by decide +kernel
theorem d_M_end_9 : decode b_M_end 9 = .ok (.goto 42, 3) := by decide +kernel
theorem d_M_end_12 : decode b_M_end 12 = .ok (.aload_n 0, 1) := by decide +kernel
theorem d_M_end_13 : decode b_M_end 13 = .ok (.getfield 13, 3) := by decide +kernel
theorem d_M_end_16 : decode b_M_end 16 = .ok (.aload_n 0, 1) := by decide +kernel
theorem d_M_end_17 : decode b_M_end 17 = .ok (.invokevirtual 68, 3) := by decide +kernel
theorem d_M_end_20 : decode b_M_end 20 = .ok (.iaload, 1) := by decide +kernel
theorem d_M_end_21 : decode b_M_end 21 = .ok (.iconst 2, 1) := by decide +kernel
theorem d_M_end_22 : decode b_M_end 22 = .ok (.if_icmp .ne 28, 3) := by decide +kernel
theorem d_M_end_25 : decode b_M_end 25 = .ok (.aload_n 0, 1) := by decide +kernel
theorem d_M_end_26 : decode b_M_end 26 = .ok (.getfield 16, 3) := by decide +kernel
theorem d_M_end_29 : decode b_M_end 29 = .ok (.aload_n 0, 1) := by decide +kernel
theorem d_M_end_30 : decode b_M_end 30 = .ok (.invokevirtual 68, 3) := by decide +kernel
theorem d_M_end_33 : decode b_M_end 33 = .ok (.iaload, 1) := by decide +kernel
theorem d_M_end_34 : decode b_M_end 34 = .ok (.aload_n 0, 1) := by decide +kernel
theorem d_M_end_35 : decode b_M_end 35 = .ok (.getfield 19, 3) := by decide +kernel
theorem d_M_end_38 : decode b_M_end 38 = .ok (.aload_n 0, 1) := by decide +kernel
theorem d_M_end_39 : decode b_M_end 39 = .ok (.invokevirtual 68, 3) := by decide +kernel
theorem d_M_end_42 : decode b_M_end 42 = .ok (.iaload, 1) := by decide +kernel
theorem d_M_end_43 : decode b_M_end 43 = .ok (.if_icmp .eq 7, 3) := by decide +kernel
theorem d_M_end_46 : decode b_M_end 46 = .ok (.iconst 2, 1) := by decide +kernel
theorem d_M_end_47 : decode b_M_end 47 = .ok (.goto 4, 3) := by decide +kernel
theorem d_M_end_50 : decode b_M_end 50 = .ok (.iconst 0, 1) := by decide +kernel
theorem d_M_end_51 : decode b_M_end 51 = .ok (.putfield 36, 3) := by decide +kernel
theorem d_M_end_54 : decode b_M_end 54 = .ok (.aload_n 0, 1) := by decide +kernel
theorem d_M_end_55 : decode b_M_end 55 = .ok (.getfield 36, 3) := by decide +kernel
theorem d_M_end_58 : decode b_M_end 58 = .ok (.ifCond .le 5, 3) := by decide +kernel
theorem d_M_end_61 : decode b_M_end 61 = .ok (.iconst 0, 1) := by decide +kernel
theorem d_M_end_62 : decode b_M_end 62 = .ok (.ireturn, 1) := by decide +kernel
theorem d_M_end_63 : decode b_M_end 63 = .ok (.aload_n 0, 1) := by decide +kernel
theorem d_M_end_64 : decode b_M_end 64 = .ok (.invokevirtual 84, 3) := by decide +kernel
theorem d_M_end_67 : decode b_M_end 67 = .ok (.aload_n 0, 1) := by decide +kernel
theorem d_M_end_68 : decode b_M_end 68 = .ok (.aload_n 0, 1) := by decide +kernel
theorem d_M_end_69 : decode b_M_end 69 = .ok (.getfield 19, 3) := by decide +kernel
theorem d_M_end_72 : decode b_M_end 72 = .ok (.aload_n 0, 1) := by decide +kernel
theorem d_M_end_73 : decode b_M_end 73 = .ok (.invokevirtual 68, 3) := by decide +kernel
theorem d_M_end_76 : decode b_M_end 76 = .ok (.iaload, 1) := by decide +kernel
theorem d_M_end_77 : decode b_M_end 77 = .ok (.invokevirtual 87, 3) := by decide +kernel
theorem d_M_end_80 : decode b_M_end 80 = .ok (.aload_n 0, 1) := by decide +kernel
theorem d_M_end_81 : decode b_M_end 81 = .ok (.getfield 55, 3) := by decide +kernel
theorem d_M_end_84 : decode b_M_end 84 = .ok (.ifCond .ne 19, 3) := by decide +kernel
theorem d_M_end_87 : decode b_M_end 87 = .ok (.aload_n 0, 1) := by decide +kernel
theorem d_M_end_88 : decode b_M_end 88 = .ok (.getfield 40, 3) := by decide +kernel
theorem d_M_end_91 : decode b_M_end 91 = .ok (.aload_n 0, 1) := by decide +kernel
theorem d_M_end_92 : decode b_M_end 92 = .ok (.getfield 22, 3) := by decide +kernel
theorem d_M_end_95 : decode b_M_end 95 = .ok (.aload_n 0, 1) := by decide +kernel
theorem d_M_end_96 : decode b_M_end 96 = .ok (.invokevirtual 68, 3) := by decide +kernel
theorem d_M_end_99 : decode b_M_end 99 = .ok (.iaload, 1) := by decide +kernel
theorem d_M_end_100 : decode b_M_end 100 = .ok (.if_icmp .le 9, 3) := by decide +kernel
theorem d_M_end_103 : decode b_M_end 103 = .ok (.aload_n 0, 1) := by decide +kernel
theorem d_M_end_104 : decode b_M_end 104 = .ok (.iconst 3, 1) := by decide +kernel
theorem d_M_end_105 : decode b_M_end 105 = .ok (.invokevirtual 90, 3) := by decide +kernel
theorem d_M_end_108 : decode b_M_end 108 = .ok (.ireturn, 1) := by decide +kernel
theorem d_M_end_109 : decode b_M_end 109 = .ok (.aload_n 0, 1) := by decide +kernel
theorem d_M_end_110 : decode b_M_end 110 = .ok (.aload_n 0, 1) := by decide +kernel
theorem d_M_end_111 : decode b_M_end 111 = .ok (.getfield 19, 3) := by decide +kernel
theorem d_M_end_114 : decode b_M_end 114 = .ok (.aload_n 0, 1) := by decide +kernel
theorem d_M_end_115 : decode b_M_end 115 = .ok (.invokevirtual 68, 3) := by decide +kernel
theorem d_M_end_118 : decode b_M_end 118 = .ok (.iaload, 1) := by decide +kernel
theorem d_M_end_119 : decode b_M_end 119 = .ok (.invokevirtual 94, 3) := by decide +kernel
theorem d_M_end_122 : decode b_M_end 122 = .ok (.aload_n 0, 1) := by decide +kernel
theorem d_M_end_123 : decode b_M_end 123 = .ok (.getfield 40, 3) := by decide +kernel
theorem d_M_end_126 : decode b_M_end 126 = .ok (.sipush 300, 3) := by decide +kernel
theorem d_M_end_129 : decode b_M_end 129 = .ok (.if_icmp .le 9, 3) := by decide +kernel
theorem d_M_end_132 : decode b_M_end 132 = .ok (.aload_n 0, 1) := by decide +kernel
theorem d_M_end_133 : decode b_M_end 133 = .ok (.iconst 4, 1) := by decide +kernel
theorem d_M_end_134 : decode b_M_end 134 = .ok (.invokevirtual 90, 3) := by decide +kernel
theorem d_M_end_137 : decode b_M_end 137 = .ok (.ireturn, 1) := by decide +kernel
theorem d_M_end_138 : decode b_M_end 138 = .ok (.aload_n 0, 1) := by decide +kernel
theorem d_M_end_139 : decode b_M_end 139 = .ok (.dup, 1) := by decide +kernel
theorem d_M_end_140 : decode b_M_end 140 = .ok (.getfield 43, 3) := by decide +kernel
theorem d_M_end_143 : decode b_M_end 143 = .ok (.iconst 1, 1) := by decide +kernel
theorem d_M_end_144 : decode b_M_end 144 = .ok (.isub, 1) := by decide +kernel
theorem d_M_end_145 : decode b_M_end 145 = .ok (.putfield 43, 3) := by decide +kernel
theorem d_M_end_148 : decode b_M_end 148 = .ok (.aload_n 0, 1) := by decide +kernel
theorem d_M_end_149 : decode b_M_end 149 = .ok (.invokevirtual 97, 3) := by decide +kernel
theorem d_M_end_152 : decode b_M_end 152 = .ok (.aload_n 0, 1) := by decide +kernel
theorem d_M_end_153 : decode b_M_end 153 = .ok (.getfield 43, 3) := by decide +kernel
theorem d_M_end_156 : decode b_M_end 156 = .ok (.ireturn, 1) := by decide +kernel
theorem d_M_leap_0 : decode b_M_leap 0 = .ok (.aload_n 0, 1) := by decide +kernel
theorem d_M_leap_1 : decode b_M_leap 1 = .ok (.aload_n 0, 1) := by decide +kernel
theorem d_M_leap_2 : decode b_M_leap 2 = .ok (.iload_n 1, 1) := by decide +kernel
theorem d_M_leap_3 : decode b_M_leap 3 = .ok (.invokevirtual 103, 3) := by decide +kernel
theorem d_M_leap_6 : decode b_M_leap 6 = .ok (.ifCond .eq 7, 3) := by decide +kernel
theorem d_M_leap_9 : decode b_M_leap 9 = .ok (.iconst 1, 1) := by decide +kernel
theorem d_M_leap_10 : decode b_M_leap 10 = .ok (.goto 4, 3) := by decide +kernel
theorem d_M_leap_13 : decode b_M_leap 13 = .ok (.iconst 0, 1) := by decide +kernel
theorem d_M_leap_14 : decode b_M_leap 14 = .ok (.putfield 36, 3) := by decide +kernel
theorem d_M_leap_17 : decode b_M_leap 17 = .ok (.aload_n 0, 1) := by decide +kernel
theorem d_M_leap_18 : decode b_M_leap 18 = .ok (.getfield 36, 3) := by decide +kernel
theorem d_M_leap_21 : decode b_M_leap 21 = .ok (.ifCond .le 4, 3) := by decide +kernel
theorem d_M_leap_24 : decode b_M_leap 24 = .ok (.return_, 1) := by decide +kernel
theorem d_M_leap_25 : decode b_M_leap 25 = .ok (.aload_n 0, 1) := by decide +kernel
theorem d_M_leap_26 : decode b_M_leap 26 = .ok (.invokevirtual 84, 3) := by decide +kernel
theorem d_M_leap_29 : decode b_M_leap 29 = .ok (.aload_n 0, 1) := by decide +kernel
theorem d_M_leap_30 : decode b_M_leap 30 = .ok (.aload_n 0, 1) := by decide +kernel
theorem d_M_leap_31 : decode b_M_leap 31 = .ok (.iload_n 1, 1) := by decide +kernel
theorem d_M_leap_32 : decode b_M_leap 32 = .ok (.invokevirtual 106, 3) := by decide +kernel
theorem d_M_leap_35 : decode b_M_leap 35 = .ok (.invokevirtual 87, 3) := by decide +kernel
theorem d_M_leap_38 : decode b_M_leap 38 = .ok (.aload_n 0, 1) := by decide +kernel
theorem d_M_leap_39 : decode b_M_leap 39 = .ok (.getfield 55, 3) := by decide +kernel
theorem d_M_leap_42 : decode b_M_leap 42 = .ok (.ifCond .eq 10, 3) := by decide +kernel
theorem d_M_leap_45 : decode b_M_leap 45 = .ok (.aload_n 0, 1) := by decide +kernel
theorem d_M_leap_46 : decode b_M_leap 46 = .ok (.iconst 2, 1) := by decide +kernel
theorem d_M_leap_47 : decode b_M_leap 47 = .ok (.invokevirtual 90, 3) := by decide +kernel
theorem d_M_leap_50 : decode b_M_leap 50 = .ok (.pop, 1) := by decide +kernel
theorem d_M_leap_51 : decode b_M_leap 51 = .ok (.return_, 1) := by decide +kernel
theorem d_M_leap_52 : decode b_M_leap 52 = .ok (.aload_n 0, 1) := by decide +kernel
theorem d_M_leap_53 : decode b_M_leap 53 = .ok (.invokevirtual 109, 3) := by decide +kernel
theorem d_M_leap_56 : decode b_M_leap 56 = .ok (.aload_n 0, 1) := by decide +kernel
theorem d_M_leap_57 : decode b_M_leap 57 = .ok (.invokevirtual 97, 3) := by decide +kernel
theorem d_M_leap_60 : decode b_M_leap 60 = .ok (.return_, 1) := by decide +kernel
theorem d_M_leapIf_0 : decode b_M_leapIf 0 = .ok (.aload_n 0, 1) := by decide +kernel
theorem d_M_leapIf_1 : decode b_M_leapIf 1 = .ok (.aload_n 0, 1) := by decide +kernel
theorem d_M_leapIf_2 : decode b_M_leapIf 2 = .ok (.iload_n 1, 1) := by decide +kernel
theorem d_M_leapIf_3 : decode b_M_leapIf 3 = .ok (.invokevirtual 103, 3) := by decide +kernel
theorem d_M_leapIf_6 : decode b_M_leapIf 6 = .ok (.ifCond .eq 7, 3) := by decide +kernel
theorem d_M_leapIf_9 : decode b_M_leapIf 9 = .ok (.iconst 1, 1) := by decide +kernel
theorem d_M_leapIf_10 : decode b_M_leapIf 10 = .ok (.goto 4, 3) := by decide +kernel
theorem d_M_leapIf_13 : decode b_M_leapIf 13 = .ok (.iconst 0, 1) := by decide +kernel
theorem d_M_leapIf_14 : decode b_M_leapIf 14 = .ok (.putfield 36, 3) := by decide +kernel
theorem d_M_leapIf_17 : decode b_M_leapIf 17 = .ok (.aload_n 0, 1) := by decide +kernel
theorem d_M_leapIf_18 : decode b_M_leapIf 18 = .ok (.getfield 36, 3) := by decide +kernel
theorem d_M_leapIf_21 : decode b_M_leapIf 21 = .ok (.ifCond .le 5, 3) := by decide +kernel
theorem d_M_leapIf_24 : decode b_M_leapIf 24 = .ok (.iconst 0, 1) := by decide +kernel
theorem d_M_leapIf_25 : decode b_M_leapIf 25 = .ok (.ireturn, 1) := by decide +kernel
theorem d_M_leapIf_26 : decode b_M_leapIf 26 = .ok (.aload_n 0, 1) := by decide +kernel
theorem d_M_leapIf_27 : decode b_M_leapIf 27 = .ok (.invokevirtual 84, 3) := by decide +kernel
theorem d_M_leapIf_30 : decode b_M_leapIf 30 = .ok (.aload_n 0, 1) := by decide +kernel
theorem d_M_leapIf_31 : decode b_M_leapIf 31 = .ok (.iconst 1, 1) := by decide +kernel
theorem d_M_leapIf_32 : decode b_M_leapIf 32 = .ok (.invokevirtual 75, 3) := by decide +kernel
theorem d_M_leapIf_35 : decode b_M_leapIf 35 = .ok (.aload_n 0, 1) := by decide +kernel
theorem d_M_leapIf_36 : decode b_M_leapIf 36 = .ok (.aload_n 0, 1) := by decide +kernel
theorem d_M_leapIf_37 : decode b_M_leapIf 37 = .ok (.iload_n 1, 1) := by decide +kernel
theorem d_M_leapIf_38 : decode b_M_leapIf 38 = .ok (.invokevirtual 106, 3) := by decide +kernel
theorem d_M_leapIf_41 : decode b_M_leapIf 41 = .ok (.invokevirtual 87, 3) := by decide +kernel
theorem d_M_leapIf_44 : decode b_M_leapIf 44 = .ok (.aload_n 0, 1) := by decide +kernel
theorem d_M_leapIf_45 : decode b_M_leapIf 45 = .ok (.getfield 55, 3) := by decide +kernel
theorem d_M_leapIf_48 : decode b_M_leapIf 48 = .ok (.ifCond .eq 9, 3) := by decide +kernel
theorem d_M_leapIf_51 : decode b_M_leapIf 51 = .ok (.aload_n 0, 1) := by decide +kernel
theorem d_M_leapIf_52 : decode b_M_leapIf 52 = .ok (.iconst 2, 1) := by decide +kernel
theorem d_M_leapIf_53 : decode b_M_leapIf 53 = .ok (.invokevirtual 90, 3) := by decide +kernel
theorem d_M_leapIf_56 : decode b_M_leapIf 56 = .ok (.ireturn, 1) := by decide +kernel
theorem d_M_leapIf_57 : decode b_M_leapIf 57 = .ok (.aload_n 0, 1) := by decide +kernel
theorem d_M_leapIf_58 : decode b_M_leapIf 58 = .ok (.aload_n 0, 1) := by decide +kernel
theorem d_M_leapIf_59 : decode b_M_leapIf 59 = .ok (.iload_n 1, 1) := by decide +kernel
theorem d_M_leapIf_60 : decode b_M_leapIf 60 = .ok (.invokevirtual 106, 3) := by decide +kernel
theorem d_M_leapIf_63 : decode b_M_leapIf 63 = .ok (.invokevirtual 94, 3) := by decide +kernel
theorem d_M_leapIf_66 : decode b_M_leapIf 66 = .ok (.aload_n 0, 1) := by decide +kernel
theorem d_M_leapIf_67 : decode b_M_leapIf 67 = .ok (.getfield 40, 3) := by decide +kernel
theorem d_M_leapIf_70 : decode b_M_leapIf 70 = .ok (.sipush 300, 3) := by decide +kernel
theorem d_M_leapIf_73 : decode b_M_leapIf 73 = .ok (.if_icmp .le 9, 3) := by decide +kernel
theorem d_M_leapIf_76 : decode b_M_leapIf 76 = .ok (.aload_n 0, 1) := by decide +kernel
theorem d_M_leapIf_77 : decode b_M_leapIf 77 = .ok (.iconst 3, 1) := by decide +kernel
theorem d_M_leapIf_78 : decode b_M_leapIf 78 = .ok (.invokevirtual 90, 3) := by decide +kernel
theorem d_M_leapIf_81 : decode b_M_leapIf 81 = .ok (.ireturn, 1) := by decide +kernel
theorem d_M_leapIf_82 : decode b_M_leapIf 82 = .ok (.aload_n 0, 1) := by decide +kernel
theorem d_M_leapIf_83 : decode b_M_leapIf 83 = .ok (.invokevirtual 97, 3) := by decide +kernel
theorem d_M_leapIf_86 : decode b_M_leapIf 86 = .ok (.aload_n 0, 1) := by decide +kernel
theorem d_M_leapIf_87 : decode b_M_leapIf 87 = .ok (.getfield 40, 3) := by decide +kernel
theorem d_M_leapIf_90 : decode b_M_leapIf 90 = .ok (.ireturn, 1) := by decide +kernel
theorem d_M_table_0 : decode b_M_table 0 = .ok (.aload_n 0, 1) := by decide +kernel
theorem d_M_table_1 : decode b_M_table 1 = .ok (.aload_n 0, 1) := by decide +kernel
theorem d_M_table_2 : decode b_M_table 2 = .ok (.iload_n 1, 1) := by decide +kernel
theorem d_M_table_3 : decode b_M_table 3 = .ok (.invokevirtual 103, 3) := by decide +kernel
theorem d_M_table_6 : decode b_M_table 6 = .ok (.ifCond .ne 11, 3) := by decide +kernel
theorem d_M_table_9 : decode b_M_table 9 = .ok (.aload_n 0, 1) := by decide +kernel
theorem d_M_table_10 : decode b_M_table 10 = .ok (.iload_n 2, 1) := by decide +kernel
theorem d_M_table_11 : decode b_M_table 11 = .ok (.invokevirtual 103, 3) := by decide +kernel
theorem d_M_table_14 : decode b_M_table 14 = .ok (.ifCond .eq 7, 3) := by decide +kernel
theorem d_M_table_17 : decode b_M_table 17 = .ok (.iconst 1, 1) := by decide +kernel
theorem d_M_table_18 : decode b_M_table 18 = .ok (.goto 27, 3) := by decide +kernel
theorem d_M_table_21 : decode b_M_table 21 = .ok (.aload_n 0, 1) := by decide +kernel
theorem d_M_table_22 : decode b_M_table 22 = .ok (.iload_n 1, 1) := by decide +kernel
theorem d_M_table_23 : decode b_M_table 23 = .ok (.invokevirtual 106, 3) := by decide +kernel
theorem d_M_table_26 : decode b_M_table 26 = .ok (.invokestatic 100, 3) := by decide +kernel
theorem d_M_table_29 : decode b_M_table 29 = .ok (.aload_n 0, 1) := by decide +kernel
theorem d_M_table_30 : decode b_M_table 30 = .ok (.iload_n 2, 1) := by decide +kernel
theorem d_M_table_31 : decode b_M_table 31 = .ok (.invokevirtual 106, 3) := by decide +kernel
theorem d_M_table_34 : decode b_M_table 34 = .ok (.invokestatic 100, 3) := by decide +kernel
theorem d_M_table_37 : decode b_M_table 37 = .ok (.if_icmp .eq 7, 3) := by decide +kernel
theorem d_M_table_40 : decode b_M_table 40 = .ok (.iconst 2, 1) := by decide +kernel
theorem d_M_table_41 : decode b_M_table 41 = .ok (.goto 4, 3) := by decide +kernel
theorem d_M_table_44 : decode b_M_table 44 = .ok (.iconst 0, 1) := by decide +kernel
theorem d_M_table_45 : decode b_M_table 45 = .ok (.putfield 36, 3) := by decide +kernel
theorem d_M_table_48 : decode b_M_table 48 = .ok (.aload_n 0, 1) := by decide +kernel
theorem d_M_table_49 : decode b_M_table 49 = .ok (.getfield 36, 3) := by decide +kernel
theorem d_M_table_52 : decode b_M_table 52 = .ok (.ifCond .le 4, 3) := by decide +kernel
theorem d_M_table_55 : decode b_M_table 55 = .ok (.return_, 1) := by decide +kernel
theorem d_M_table_56 : decode b_M_table 56 = .ok (.aload_n 0, 1) := by decide +kernel
theorem d_M_table_57 : decode b_M_table 57 = .ok (.invokevirtual 84, 3) := by decide +kernel
theorem d_M_table_60 : decode b_M_table 60 = .ok (.aload_n 0, 1) := by decide +kernel
theorem d_M_table_61 : decode b_M_table 61 = .ok (.iconst 1, 1) := by decide +kernel
theorem d_M_table_62 : decode b_M_table 62 = .ok (.invokevirtual 75, 3) := by decide +kernel
theorem d_M_table_65 : decode b_M_table 65 = .ok (.aload_n 0, 1) := by decide +kernel
theorem d_M_table_66 : decode b_M_table 66 = .ok (.getfield 40, 3) := by decide +kernel
theorem d_M_table_69 : decode b_M_table 69 = .ok (.istore_n 3, 1) := by decide +kernel
theorem d_M_table_70 : decode b_M_table 70 = .ok (.aload_n 0, 1) := by decide +kernel
theorem d_M_table_71 : decode b_M_table 71 = .ok (.aload_n 0, 1) := by decide +kernel
theorem d_M_table_72 : decode b_M_table 72 = .ok (.iload_n 1, 1) := by decide +kernel
theorem d_M_table_73 : decode b_M_table 73 = .ok (.invokevirtual 106, 3) := by decide +kernel
theorem d_M_table_76 : decode b_M_table 76 = .ok (.invokevirtual 87, 3) := by decide +kernel
theorem d_M_table_79 : decode b_M_table 79 = .ok (.aload_n 0, 1) := by decide +kernel
theorem d_M_table_80 : decode b_M_table 80 = .ok (.iload_n 3, 1) := by decide +kernel
theorem d_M_table_81 : decode b_M_table 81 = .ok (.putfield 40, 3) := by decide +kernel
theorem d_M_table_84 : decode b_M_table 84 = .ok (.aload_n 0, 1) := by decide +kernel
theorem d_M_table_85 : decode b_M_table 85 = .ok (.aload_n 0, 1) := by decide +kernel
theorem d_M_table_86 : decode b_M_table 86 = .ok (.iload_n 2, 1) := by decide +kernel
theorem d_M_table_87 : decode b_M_table 87 = .ok (.invokevirtual 106, 3) := by decide +kernel
theorem d_M_table_90 : decode b_M_table 90 = .ok (.invokevirtual 87, 3) := by decide +kernel
theorem d_M_table_93 : decode b_M_table 93 = .ok (.aload_n 0, 1) := by decide +kernel
theorem d_M_table_94 : decode b_M_table 94 = .ok (.getfield 55, 3) := by decide +kernel
theorem d_M_table_97 : decode b_M_table 97 = .ok (.ifCond .eq 10, 3) := by decide +kernel
theorem d_M_table_100 : decode b_M_table 100 = .ok (.aload_n 0, 1) := by decide +kernel
theorem d_M_table_101 : decode b_M_table 101 = .ok (.iconst 3, 1) := by decide +kernel
theorem d_M_table_102 : decode b_M_table 102 = .ok (.invokevirtual 90, 3) := by decide +kernel
theorem d_M_table_105 : decode b_M_table 105 = .ok (.pop, 1) := by decide +kernel
theorem d_M_table_106 : decode b_M_table 106 = .ok (.return_, 1) := by decide +kernel
theorem d_M_table_107 : decode b_M_table 107 = .ok (.aload_n 0, 1) := by decide +kernel
theorem d_M_table_108 : decode b_M_table 108 = .ok (.invokevirtual 109, 3) := by decide +kernel
theorem d_M_table_111 : decode b_M_table 111 = .ok (.aload_n 0, 1) := by decide +kernel
theorem d_M_table_112 : decode b_M_table 112 = .ok (.invokevirtual 97, 3) := by decide +kernel
theorem d_M_table_115 : decode b_M_table 115 = .ok (.return_, 1) := by decide +kernel
