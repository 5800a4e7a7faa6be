theorem dX1_init_0 : decode cX1_init 0 = .ok (.aload_n 0, 1) := by decide +kernel
theorem dX1_init_1 : decode cX1_init 1 = .ok (.invokespecial 1, 3) := by decide +kernel
theorem dX1_init_4 : decode cX1_init 4 = .ok (.aload_n 0, 1) := by decide +kernel
theorem dX1_init_5 : decode cX1_init 5 = .ok (.iconst 0, 1) := by decide +kernel
theorem dX1_init_6 : decode cX1_init 6 = .ok (.putfield 7, 3) := by decide +kernel
theorem dX1_init_9 : decode cX1_init 9 = .ok (.aload_n 0, 1) := by decide +kernel
theorem dX1_init_10 : decode cX1_init 10 = .ok (.iconst (-1), 1) := by decide +kernel
theorem dX1_init_11 : decode cX1_init 11 = .ok (.putfield 13, 3) := by decide +kernel
theorem dX1_init_14 : decode cX1_init 14 = .ok (.aload_n 0, 1) := by decide +kernel
theorem dX1_init_15 : decode cX1_init 15 = .ok (.iconst 0, 1) := by decide +kernel
theorem dX1_init_16 : decode cX1_init 16 = .ok (.putfield 16, 3) := by decide +kernel
theorem dX1_init_19 : decode cX1_init 19 = .ok (.aload_n 0, 1) := by decide +kernel
theorem dX1_init_20 : decode cX1_init 20 = .ok (.iconst 0, 1) := by decide +kernel
theorem dX1_init_21 : decode cX1_init 21 = .ok (.putfield 19, 3) := by decide +kernel
theorem dX1_init_24 : decode cX1_init 24 = .ok (.aload_n 0, 1) := by decide +kernel
theorem dX1_init_25 : decode cX1_init 25 = .ok (.iconst 0, 1) := by decide +kernel
theorem dX1_init_26 : decode cX1_init 26 = .ok (.putfield 22, 3) := by decide +kernel
theorem dX1_init_29 : decode cX1_init 29 = .ok (.aload_n 0, 1) := by decide +kernel
theorem dX1_init_30 : decode cX1_init 30 = .ok (.iconst 0, 1) := by decide +kernel
theorem dX1_init_31 : decode cX1_init 31 = .ok (.putfield 25, 3) := by decide +kernel
theorem dX1_init_34 : decode cX1_init 34 = .ok (.aload_n 0, 1) := by decide +kernel
theorem dX1_init_35 : decode cX1_init 35 = .ok (.iconst 0, 1) := by decide +kernel
theorem dX1_init_36 : decode cX1_init 36 = .ok (.putfield 28, 3) := by decide +kernel
theorem dX1_init_39 : decode cX1_init 39 = .ok (.aload_n 0, 1) := by decide +kernel
theorem dX1_init_40 : decode cX1_init 40 = .ok (.iconst 0, 1) := by decide +kernel
theorem dX1_init_41 : decode cX1_init 41 = .ok (.putfield 31, 3) := by decide +kernel
theorem dX1_init_44 : decode cX1_init 44 = .ok (.aload_n 0, 1) := by decide +kernel
theorem dX1_init_45 : decode cX1_init 45 = .ok (.iconst 0, 1) := by decide +kernel
theorem dX1_init_46 : decode cX1_init 46 = .ok (.putfield 34, 3) := by decide +kernel
theorem dX1_init_49 : decode cX1_init 49 = .ok (.aload_n 0, 1) := by decide +kernel
theorem dX1_init_50 : decode cX1_init 50 = .ok (.bipush 40, 2) := by decide +kernel
theorem dX1_init_52 : decode cX1_init 52 = .ok (.newarray .int, 2) := by decide +kernel
theorem dX1_init_54 : decode cX1_init 54 = .ok (.putfield 38, 3) := by decide +kernel
theorem dX1_init_57 : decode cX1_init 57 = .ok (.aload_n 0, 1) := by decide +kernel
theorem dX1_init_58 : decode cX1_init 58 = .ok (.bipush 40, 2) := by decide +kernel
theorem dX1_init_60 : decode cX1_init 60 = .ok (.newarray .int, 2) := by decide +kernel
theorem dX1_init_62 : decode cX1_init 62 = .ok (.putfield 42, 3) := by decide +kernel
theorem dX1_init_65 : decode cX1_init 65 = .ok (.aload_n 0, 1) := by decide +kernel
theorem dX1_init_66 : decode cX1_init 66 = .ok (.bipush 40, 2) := by decide +kernel
theorem dX1_init_68 : decode cX1_init 68 = .ok (.newarray .int, 2) := by decide +kernel
theorem dX1_init_70 : decode cX1_init 70 = .ok (.putfield 45, 3) := by decide +kernel
theorem dX1_init_73 : decode cX1_init 73 = .ok (.aload_n 0, 1) := by decide +kernel
theorem dX1_init_74 : decode cX1_init 74 = .ok (.bipush 40, 2) := by decide +kernel
theorem dX1_init_76 : decode cX1_init 76 = .ok (.newarray .int, 2) := by decide +kernel
theorem dX1_init_78 : decode cX1_init 78 = .ok (.putfield 48, 3) := by decide +kernel
theorem dX1_init_81 : decode cX1_init 81 = .ok (.aload_n 0, 1) := by decide +kernel
theorem dX1_init_82 : decode cX1_init 82 = .ok (.bipush 40, 2) := by decide +kernel
theorem dX1_init_84 : decode cX1_init 84 = .ok (.newarray .int, 2) := by decide +kernel
theorem dX1_init_86 : decode cX1_init 86 = .ok (.putfield 51, 3) := by decide +kernel
theorem dX1_init_89 : decode cX1_init 89 = .ok (.aload_n 0, 1) := by decide +kernel
theorem dX1_init_90 : decode cX1_init 90 = .ok (.bipush 40, 2) := by decide +kernel
theorem dX1_init_92 : decode cX1_init 92 = .ok (.newarray .int, 2) := by decide +kernel
theorem dX1_init_94 : decode cX1_init 94 = .ok (.putfield 54, 3) := by decide +kernel
theorem dX1_init_97 : decode cX1_init 97 = .ok (.aload_n 0, 1) := by decide +kernel
theorem dX1_init_98 : decode cX1_init 98 = .ok (.bipush 40, 2) := by decide +kernel
theorem dX1_init_100 : decode cX1_init 100 = .ok (.newarray .boolean, 2) := by decide +kernel
theorem dX1_init_102 : decode cX1_init 102 = .ok (.putfield 57, 3) := by decide +kernel
theorem dX1_init_105 : decode cX1_init 105 = .ok (.aload_n 0, 1) := by decide +kernel
theorem dX1_init_106 : decode cX1_init 106 = .ok (.bipush 40, 2) := by decide +kernel
theorem dX1_init_108 : decode cX1_init 108 = .ok (.newarray .boolean, 2) := by decide +kernel
theorem dX1_init_110 : decode cX1_init 110 = .ok (.putfield 61, 3) := by decide +kernel
theorem dX1_init_113 : decode cX1_init 113 = .ok (.aload_n 0, 1) := by decide +kernel
theorem dX1_init_114 : decode cX1_init 114 = .ok (.bipush 96, 2) := by decide +kernel
theorem dX1_init_116 : decode cX1_init 116 = .ok (.newarray .int, 2) := by decide +kernel
theorem dX1_init_118 : decode cX1_init 118 = .ok (.putfield 64, 3) := by decide +kernel
theorem dX1_init_121 : decode cX1_init 121 = .ok (.aload_n 0, 1) := by decide +kernel
theorem dX1_init_122 : decode cX1_init 122 = .ok (.bipush 8, 2) := by decide +kernel
theorem dX1_init_124 : decode cX1_init 124 = .ok (.newarray .int, 2) := by decide +kernel
theorem dX1_init_126 : decode cX1_init 126 = .ok (.putfield 67, 3) := by decide +kernel
theorem dX1_init_129 : decode cX1_init 129 = .ok (.aload_n 0, 1) := by decide +kernel
theorem dX1_init_130 : decode cX1_init 130 = .ok (.bipush 16, 2) := by decide +kernel
theorem dX1_init_132 : decode cX1_init 132 = .ok (.newarray .int, 2) := by decide +kernel
theorem dX1_init_134 : decode cX1_init 134 = .ok (.putfield 70, 3) := by decide +kernel
theorem dX1_init_137 : decode cX1_init 137 = .ok (.aload_n 0, 1) := by decide +kernel
theorem dX1_init_138 : decode cX1_init 138 = .ok (.bipush 40, 2) := by decide +kernel
theorem dX1_init_140 : decode cX1_init 140 = .ok (.newarray .int, 2) := by decide +kernel
theorem dX1_init_142 : decode cX1_init 142 = .ok (.putfield 73, 3) := by decide +kernel
theorem dX1_init_145 : decode cX1_init 145 = .ok (.aload_n 0, 1) := by decide +kernel
theorem dX1_init_146 : decode cX1_init 146 = .ok (.bipush 40, 2) := by decide +kernel
theorem dX1_init_148 : decode cX1_init 148 = .ok (.newarray .int, 2) := by decide +kernel
theorem dX1_init_150 : decode cX1_init 150 = .ok (.putfield 76, 3) := by decide +kernel
theorem dX1_init_153 : decode cX1_init 153 = .ok (.aload_n 0, 1) := by decide +kernel
theorem dX1_init_154 : decode cX1_init 154 = .ok (.bipush 40, 2) := by decide +kernel
theorem dX1_init_156 : decode cX1_init 156 = .ok (.newarray .int, 2) := by decide +kernel
theorem dX1_init_158 : decode cX1_init 158 = .ok (.putfield 79, 3) := by decide +kernel
theorem dX1_init_161 : decode cX1_init 161 = .ok (.aload_n 0, 1) := by decide +kernel
theorem dX1_init_162 : decode cX1_init 162 = .ok (.bipush 40, 2) := by decide +kernel
theorem dX1_init_164 : decode cX1_init 164 = .ok (.newarray .int, 2) := by decide +kernel
theorem dX1_init_166 : decode cX1_init 166 = .ok (.putfield 82, 3) := by decide +kernel
theorem dX1_init_169 : decode cX1_init 169 = .ok (.aload_n 0, 1) := by decide +kernel
theorem dX1_init_170 : decode cX1_init 170 = .ok (.bipush 40, 2) := by decide +kernel
theorem dX1_init_172 : decode cX1_init 172 = .ok (.newarray .int, 2) := by decide +kernel
theorem dX1_init_174 : decode cX1_init 174 = .ok (.putfield 85, 3) := by decide +kernel
theorem dX1_init_177 : decode cX1_init 177 = .ok (.aload_n 0, 1) := by decide +kernel
theorem dX1_init_178 : decode cX1_init 178 = .ok (.bipush 40, 2) := by decide +kernel
theorem dX1_init_180 : decode cX1_init 180 = .ok (.newarray .int, 2) := by decide +kernel
theorem dX1_init_182 : decode cX1_init 182 = .ok (.putfield 88, 3) := by decide +kernel
theorem dX1_init_185 : decode cX1_init 185 = .ok (.aload_n 0, 1) := by decide +kernel
theorem dX1_init_186 : decode cX1_init 186 = .ok (.bipush 6, 2) := by decide +kernel
theorem dX1_init_188 : decode cX1_init 188 = .ok (.newarray .int, 2) := by decide +kernel
theorem dX1_init_190 : decode cX1_init 190 = .ok (.putfield 91, 3) := by decide +kernel
theorem dX1_init_193 : decode cX1_init 193 = .ok (.aload_n 0, 1) := by decide +kernel
theorem dX1_init_194 : decode cX1_init 194 = .ok (.bipush 6, 2) := by decide +kernel
theorem dX1_init_196 : decode cX1_init 196 = .ok (.newarray .int, 2) := by decide +kernel
theorem dX1_init_198 : decode cX1_init 198 = .ok (.putfield 94, 3) := by decide +kernel
theorem dX1_init_201 : decode cX1_init 201 = .ok (.iconst 0, 1) := by decide +kernel
theorem dX1_init_202 : decode cX1_init 202 = .ok (.istore_n 1, 1) := by decide +kernel
theorem dX1_init_203 : decode cX1_init 203 = .ok (.iload_n 1, 1) := by decide +kernel
theorem dX1_init_204 : decode cX1_init 204 = .ok (.bipush 96, 2) := by decide +kernel
theorem dX1_init_206 : decode cX1_init 206 = .ok (.if_icmp .ge 16, 3) := by decide +kernel
theorem dX1_init_209 : decode cX1_init 209 = .ok (.aload_n 0, 1) := by decide +kernel
theorem dX1_init_210 : decode cX1_init 210 = .ok (.getfield 64, 3) := by decide +kernel
theorem dX1_init_213 : decode cX1_init 213 = .ok (.iload_n 1, 1) := by decide +kernel
theorem dX1_init_214 : decode cX1_init 214 = .ok (.iconst 5, 1) := by decide +kernel
theorem dX1_init_215 : decode cX1_init 215 = .ok (.iastore, 1) := by decide +kernel
theorem dX1_init_216 : decode cX1_init 216 = .ok (.iinc 1 1, 3) := by decide +kernel
theorem dX1_init_219 : decode cX1_init 219 = .ok (.goto (-16), 3) := by decide +kernel
theorem dX1_init_222 : decode cX1_init 222 = .ok (.return_, 1) := by decide +kernel
theorem dX1_thrown_0 : decode cX1_thrown 0 = .ok (.aload_n 0, 1) := by decide +kernel
theorem dX1_thrown_1 : decode cX1_thrown 1 = .ok (.getfield 28, 3) := by decide +kernel
theorem dX1_thrown_4 : decode cX1_thrown 4 = .ok (.ireturn, 1) := by decide +kernel
theorem dX1_fail_0 : decode cX1_fail 0 = .ok (.aload_n 0, 1) := by decide +kernel
theorem dX1_fail_1 : decode cX1_fail 1 = .ok (.iload_n 1, 1) := by decide +kernel
theorem dX1_fail_2 : decode cX1_fail 2 = .ok (.putfield 28, 3) := by decide +kernel
theorem dX1_fail_5 : decode cX1_fail 5 = .ok (.iconst 0, 1) := by decide +kernel
theorem dX1_fail_6 : decode cX1_fail 6 = .ok (.ireturn, 1) := by decide +kernel
theorem dX1_fine_0 : decode cX1_fine 0 = .ok (.aload_n 0, 1) := by decide +kernel
theorem dX1_fine_1 : decode cX1_fine 1 = .ok (.iconst 0, 1) := by decide +kernel
theorem dX1_fine_2 : decode cX1_fine 2 = .ok (.putfield 28, 3) := by decide +kernel
theorem dX1_fine_5 : decode cX1_fine 5 = .ok (.iload_n 1, 1) := by decide +kernel
theorem dX1_fine_6 : decode cX1_fine 6 = .ok (.ireturn, 1) := by decide +kernel
theorem dX1_out_0 : decode cX1_out 0 = .ok (.iload_n 1, 1) := by decide +kernel
theorem dX1_out_1 : decode cX1_out 1 = .ok (.iload_n 2, 1) := by decide +kernel
theorem dX1_out_2 : decode cX1_out 2 = .ok (.if_icmp .lt 8, 3) := by decide +kernel
theorem dX1_out_5 : decode cX1_out 5 = .ok (.iload_n 1, 1) := by decide +kernel
theorem dX1_out_6 : decode cX1_out 6 = .ok (.iload_n 3, 1) := by decide +kernel
theorem dX1_out_7 : decode cX1_out 7 = .ok (.if_icmp .le 7, 3) := by decide +kernel
theorem dX1_out_10 : decode cX1_out 10 = .ok (.iconst 1, 1) := by decide +kernel
theorem dX1_out_11 : decode cX1_out 11 = .ok (.goto 4, 3) := by decide +kernel
theorem dX1_out_14 : decode cX1_out 14 = .ok (.iconst 0, 1) := by decide +kernel
theorem dX1_out_15 : decode cX1_out 15 = .ok (.ireturn, 1) := by decide +kernel
theorem dX1_table_0 : decode cX1_table 0 = .ok (.aload_n 0, 1) := by decide +kernel
theorem dX1_table_1 : decode cX1_table 1 = .ok (.iload_n 1, 1) := by decide +kernel
theorem dX1_table_2 : decode cX1_table 2 = .ok (.iconst 0, 1) := by decide +kernel
theorem dX1_table_3 : decode cX1_table 3 = .ok (.iconst 2, 1) := by decide +kernel
theorem dX1_table_4 : decode cX1_table 4 = .ok (.invokevirtual 97, 3) := by decide +kernel
theorem dX1_table_7 : decode cX1_table 7 = .ok (.ifCond .ne 35, 3) := by decide +kernel
theorem dX1_table_10 : decode cX1_table 10 = .ok (.aload_n 0, 1) := by decide +kernel
theorem dX1_table_11 : decode cX1_table 11 = .ok (.iload_n 2, 1) := by decide +kernel
theorem dX1_table_12 : decode cX1_table 12 = .ok (.iconst 0, 1) := by decide +kernel
theorem dX1_table_13 : decode cX1_table 13 = .ok (.iconst 3, 1) := by decide +kernel
theorem dX1_table_14 : decode cX1_table 14 = .ok (.invokevirtual 97, 3) := by decide +kernel
theorem dX1_table_17 : decode cX1_table 17 = .ok (.ifCond .ne 25, 3) := by decide +kernel
theorem dX1_table_20 : decode cX1_table 20 = .ok (.aload_n 0, 1) := by decide +kernel
theorem dX1_table_21 : decode cX1_table 21 = .ok (.iload_n 3, 1) := by decide +kernel
theorem dX1_table_22 : decode cX1_table 22 = .ok (.iconst 0, 1) := by decide +kernel
theorem dX1_table_23 : decode cX1_table 23 = .ok (.bipush 7, 2) := by decide +kernel
theorem dX1_table_25 : decode cX1_table 25 = .ok (.invokevirtual 97, 3) := by decide +kernel
theorem dX1_table_28 : decode cX1_table 28 = .ok (.ifCond .ne 14, 3) := by decide +kernel
theorem dX1_table_31 : decode cX1_table 31 = .ok (.aload_n 0, 1) := by decide +kernel
theorem dX1_table_32 : decode cX1_table 32 = .ok (.iload 4, 2) := by decide +kernel
theorem dX1_table_34 : decode cX1_table 34 = .ok (.iconst 0, 1) := by decide +kernel
theorem dX1_table_35 : decode cX1_table 35 = .ok (.iconst 5, 1) := by decide +kernel
theorem dX1_table_36 : decode cX1_table 36 = .ok (.invokevirtual 97, 3) := by decide +kernel
theorem dX1_table_39 : decode cX1_table 39 = .ok (.ifCond .eq 9, 3) := by decide +kernel
theorem dX1_table_42 : decode cX1_table 42 = .ok (.aload_n 0, 1) := by decide +kernel
theorem dX1_table_43 : decode cX1_table 43 = .ok (.iconst 1, 1) := by decide +kernel
theorem dX1_table_44 : decode cX1_table 44 = .ok (.invokevirtual 101, 3) := by decide +kernel
theorem dX1_table_47 : decode cX1_table 47 = .ok (.ireturn, 1) := by decide +kernel
theorem dX1_table_48 : decode cX1_table 48 = .ok (.iload_n 1, 1) := by decide +kernel
theorem dX1_table_49 : decode cX1_table 49 = .ok (.bipush 32, 2) := by decide +kernel
theorem dX1_table_51 : decode cX1_table 51 = .ok (.imul, 1) := by decide +kernel
theorem dX1_table_52 : decode cX1_table 52 = .ok (.iload_n 2, 1) := by decide +kernel
theorem dX1_table_53 : decode cX1_table 53 = .ok (.bipush 8, 2) := by decide +kernel
theorem dX1_table_55 : decode cX1_table 55 = .ok (.imul, 1) := by decide +kernel
theorem dX1_table_56 : decode cX1_table 56 = .ok (.iadd, 1) := by decide +kernel
theorem dX1_table_57 : decode cX1_table 57 = .ok (.iload_n 3, 1) := by decide +kernel
theorem dX1_table_58 : decode cX1_table 58 = .ok (.iadd, 1) := by decide +kernel
theorem dX1_table_59 : decode cX1_table 59 = .ok (.istore 5, 2) := by decide +kernel
theorem dX1_table_61 : decode cX1_table 61 = .ok (.aload_n 0, 1) := by decide +kernel
theorem dX1_table_62 : decode cX1_table 62 = .ok (.getfield 64, 3) := by decide +kernel
theorem dX1_table_65 : decode cX1_table 65 = .ok (.iload 5, 2) := by decide +kernel
theorem dX1_table_67 : decode cX1_table 67 = .ok (.iaload, 1) := by decide +kernel
theorem dX1_table_68 : decode cX1_table 68 = .ok (.istore 6, 2) := by decide +kernel
theorem dX1_table_70 : decode cX1_table 70 = .ok (.aload_n 0, 1) := by decide +kernel
theorem dX1_table_71 : decode cX1_table 71 = .ok (.getfield 64, 3) := by decide +kernel
theorem dX1_table_74 : decode cX1_table 74 = .ok (.iload 5, 2) := by decide +kernel
theorem dX1_table_76 : decode cX1_table 76 = .ok (.iload 4, 2) := by decide +kernel
theorem dX1_table_78 : decode cX1_table 78 = .ok (.iastore, 1) := by decide +kernel
theorem dX1_table_79 : decode cX1_table 79 = .ok (.aload_n 0, 1) := by decide +kernel
theorem dX1_table_80 : decode cX1_table 80 = .ok (.iload 6, 2) := by decide +kernel
theorem dX1_table_82 : decode cX1_table 82 = .ok (.invokevirtual 105, 3) := by decide +kernel
theorem dX1_table_85 : decode cX1_table 85 = .ok (.ireturn, 1) := by decide +kernel
theorem dX1_namesA_0 : decode cX1_namesA 0 = .ok (.iload_n 1, 1) := by decide +kernel
theorem dX1_namesA_1 : decode cX1_namesA 1 = .ok (.bipush 7, 2) := by decide +kernel
theorem dX1_namesA_3 : decode cX1_namesA 3 = .ok (.if_icmp .le 9, 3) := by decide +kernel
theorem dX1_namesA_6 : decode cX1_namesA 6 = .ok (.iload_n 1, 1) := by decide +kernel
theorem dX1_namesA_7 : decode cX1_namesA 7 = .ok (.bipush 12, 2) := by decide +kernel
theorem dX1_namesA_9 : decode cX1_namesA 9 = .ok (.if_icmp .lt 9, 3) := by decide +kernel
theorem dX1_namesA_12 : decode cX1_namesA 12 = .ok (.iload_n 1, 1) := by decide +kernel
theorem dX1_namesA_13 : decode cX1_namesA 13 = .ok (.bipush 12, 2) := by decide +kernel
theorem dX1_namesA_15 : decode cX1_namesA 15 = .ok (.if_icmp .le 7, 3) := by decide +kernel
theorem dX1_namesA_18 : decode cX1_namesA 18 = .ok (.iconst 1, 1) := by decide +kernel
theorem dX1_namesA_19 : decode cX1_namesA 19 = .ok (.goto 4, 3) := by decide +kernel
theorem dX1_namesA_22 : decode cX1_namesA 22 = .ok (.iconst 0, 1) := by decide +kernel
theorem dX1_namesA_23 : decode cX1_namesA 23 = .ok (.ireturn, 1) := by decide +kernel
theorem dX1_namesB_0 : decode cX1_namesB 0 = .ok (.iload_n 1, 1) := by decide +kernel
theorem dX1_namesB_1 : decode cX1_namesB 1 = .ok (.bipush 7, 2) := by decide +kernel
theorem dX1_namesB_3 : decode cX1_namesB 3 = .ok (.if_icmp .le 13, 3) := by decide +kernel
theorem dX1_namesB_6 : decode cX1_namesB 6 = .ok (.iload_n 1, 1) := by decide +kernel
theorem dX1_namesB_7 : decode cX1_namesB 7 = .ok (.bipush 13, 2) := by decide +kernel
theorem dX1_namesB_9 : decode cX1_namesB 9 = .ok (.if_icmp .ge 7, 3) := by decide +kernel
theorem dX1_namesB_12 : decode cX1_namesB 12 = .ok (.iconst 1, 1) := by decide +kernel
theorem dX1_namesB_13 : decode cX1_namesB 13 = .ok (.goto 4, 3) := by decide +kernel
theorem dX1_namesB_16 : decode cX1_namesB 16 = .ok (.iconst 0, 1) := by decide +kernel
theorem dX1_namesB_17 : decode cX1_namesB 17 = .ok (.ireturn, 1) := by decide +kernel
theorem dX1_no_0 : decode cX1_no 0 = .ok (.iload_n 1, 1) := by decide +kernel
theorem dX1_no_1 : decode cX1_no 1 = .ok (.ifCond .lt 11, 3) := by decide +kernel
theorem dX1_no_4 : decode cX1_no 4 = .ok (.iload_n 1, 1) := by decide +kernel
theorem dX1_no_5 : decode cX1_no 5 = .ok (.aload_n 0, 1) := by decide +kernel
theorem dX1_no_6 : decode cX1_no 6 = .ok (.getfield 7, 3) := by decide +kernel
theorem dX1_no_9 : decode cX1_no 9 = .ok (.if_icmp .lt 7, 3) := by decide +kernel
theorem dX1_no_12 : decode cX1_no 12 = .ok (.iconst 1, 1) := by decide +kernel
theorem dX1_no_13 : decode cX1_no 13 = .ok (.goto 4, 3) := by decide +kernel
theorem dX1_no_16 : decode cX1_no 16 = .ok (.iconst 0, 1) := by decide +kernel
theorem dX1_no_17 : decode cX1_no 17 = .ok (.ireturn, 1) := by decide +kernel
theorem dX1_fits_0 : decode cX1_fits 0 = .ok (.aload_n 0, 1) := by decide +kernel
theorem dX1_fits_1 : decode cX1_fits 1 = .ok (.iload_n 1, 1) := by decide +kernel
theorem dX1_fits_2 : decode cX1_fits 2 = .ok (.iconst 0, 1) := by decide +kernel
theorem dX1_fits_3 : decode cX1_fits 3 = .ok (.bipush 14, 2) := by decide +kernel
theorem dX1_fits_5 : decode cX1_fits 5 = .ok (.invokevirtual 97, 3) := by decide +kernel
theorem dX1_fits_8 : decode cX1_fits 8 = .ok (.ifCond .ne 35, 3) := by decide +kernel
theorem dX1_fits_11 : decode cX1_fits 11 = .ok (.aload_n 0, 1) := by decide +kernel
theorem dX1_fits_12 : decode cX1_fits 12 = .ok (.iload_n 1, 1) := by decide +kernel
theorem dX1_fits_13 : decode cX1_fits 13 = .ok (.invokevirtual 108, 3) := by decide +kernel
theorem dX1_fits_16 : decode cX1_fits 16 = .ok (.ifCond .eq 11, 3) := by decide +kernel
theorem dX1_fits_19 : decode cX1_fits 19 = .ok (.aload_n 0, 1) := by decide +kernel
theorem dX1_fits_20 : decode cX1_fits 20 = .ok (.iload_n 2, 1) := by decide +kernel
theorem dX1_fits_21 : decode cX1_fits 21 = .ok (.invokevirtual 112, 3) := by decide +kernel
theorem dX1_fits_24 : decode cX1_fits 24 = .ok (.ifCond .ne 19, 3) := by decide +kernel
theorem dX1_fits_27 : decode cX1_fits 27 = .ok (.aload_n 0, 1) := by decide +kernel
theorem dX1_fits_28 : decode cX1_fits 28 = .ok (.iload_n 1, 1) := by decide +kernel
theorem dX1_fits_29 : decode cX1_fits 29 = .ok (.invokevirtual 115, 3) := by decide +kernel
theorem dX1_fits_32 : decode cX1_fits 32 = .ok (.ifCond .eq 13, 3) := by decide +kernel
theorem dX1_fits_35 : decode cX1_fits 35 = .ok (.aload_n 0, 1) := by decide +kernel
theorem dX1_fits_36 : decode cX1_fits 36 = .ok (.iload_n 3, 1) := by decide +kernel
theorem dX1_fits_37 : decode cX1_fits 37 = .ok (.invokevirtual 112, 3) := by decide +kernel
theorem dX1_fits_40 : decode cX1_fits 40 = .ok (.ifCond .eq 5, 3) := by decide +kernel
theorem dX1_fits_43 : decode cX1_fits 43 = .ok (.iconst 0, 1) := by decide +kernel
theorem dX1_fits_44 : decode cX1_fits 44 = .ok (.ireturn, 1) := by decide +kernel
theorem dX1_fits_45 : decode cX1_fits 45 = .ok (.iload_n 1, 1) := by decide +kernel
theorem dX1_fits_46 : decode cX1_fits 46 = .ok (.bipush 6, 2) := by decide +kernel
theorem dX1_fits_48 : decode cX1_fits 48 = .ok (.if_icmp .ne 19, 3) := by decide +kernel
theorem dX1_fits_51 : decode cX1_fits 51 = .ok (.aload_n 0, 1) := by decide +kernel
theorem dX1_fits_52 : decode cX1_fits 52 = .ok (.iload_n 2, 1) := by decide +kernel
theorem dX1_fits_53 : decode cX1_fits 53 = .ok (.iconst 0, 1) := by decide +kernel
theorem dX1_fits_54 : decode cX1_fits 54 = .ok (.iconst 2, 1) := by decide +kernel
theorem dX1_fits_55 : decode cX1_fits 55 = .ok (.invokevirtual 97, 3) := by decide +kernel
theorem dX1_fits_58 : decode cX1_fits 58 = .ok (.ifCond .ne 7, 3) := by decide +kernel
theorem dX1_fits_61 : decode cX1_fits 61 = .ok (.iconst 1, 1) := by decide +kernel
theorem dX1_fits_62 : decode cX1_fits 62 = .ok (.goto 4, 3) := by decide +kernel
theorem dX1_fits_65 : decode cX1_fits 65 = .ok (.iconst 0, 1) := by decide +kernel
theorem dX1_fits_66 : decode cX1_fits 66 = .ok (.ireturn, 1) := by decide +kernel
theorem dX1_fits_67 : decode cX1_fits 67 = .ok (.iload_n 1, 1) := by decide +kernel
theorem dX1_fits_68 : decode cX1_fits 68 = .ok (.bipush 14, 2) := by decide +kernel
theorem dX1_fits_70 : decode cX1_fits 70 = .ok (.if_icmp .ne 47, 3) := by decide +kernel
theorem dX1_fits_73 : decode cX1_fits 73 = .ok (.iload_n 3, 1) := by decide +kernel
theorem dX1_fits_74 : decode cX1_fits 74 = .ok (.iconst 1, 1) := by decide +kernel
theorem dX1_fits_75 : decode cX1_fits 75 = .ok (.if_icmp .eq 13, 3) := by decide +kernel
theorem dX1_fits_78 : decode cX1_fits 78 = .ok (.iload_n 3, 1) := by decide +kernel
theorem dX1_fits_79 : decode cX1_fits 79 = .ok (.iconst 4, 1) := by decide +kernel
theorem dX1_fits_80 : decode cX1_fits 80 = .ok (.if_icmp .eq 8, 3) := by decide +kernel
theorem dX1_fits_83 : decode cX1_fits 83 = .ok (.iload_n 3, 1) := by decide +kernel
theorem dX1_fits_84 : decode cX1_fits 84 = .ok (.iconst 5, 1) := by decide +kernel
theorem dX1_fits_85 : decode cX1_fits 85 = .ok (.if_icmp .ne 30, 3) := by decide +kernel
theorem dX1_fits_88 : decode cX1_fits 88 = .ok (.iload 4, 2) := by decide +kernel
theorem dX1_fits_90 : decode cX1_fits 90 = .ok (.ifCond .eq 21, 3) := by decide +kernel
theorem dX1_fits_93 : decode cX1_fits 93 = .ok (.iload 4, 2) := by decide +kernel
theorem dX1_fits_95 : decode cX1_fits 95 = .ok (.iconst 1, 1) := by decide +kernel
theorem dX1_fits_96 : decode cX1_fits 96 = .ok (.if_icmp .eq 15, 3) := by decide +kernel
theorem dX1_fits_99 : decode cX1_fits 99 = .ok (.iload 4, 2) := by decide +kernel
theorem dX1_fits_101 : decode cX1_fits 101 = .ok (.iconst 4, 1) := by decide +kernel
theorem dX1_fits_102 : decode cX1_fits 102 = .ok (.if_icmp .eq 9, 3) := by decide +kernel
theorem dX1_fits_105 : decode cX1_fits 105 = .ok (.iload 4, 2) := by decide +kernel
theorem dX1_fits_107 : decode cX1_fits 107 = .ok (.iconst 5, 1) := by decide +kernel
theorem dX1_fits_108 : decode cX1_fits 108 = .ok (.if_icmp .ne 7, 3) := by decide +kernel
theorem dX1_fits_111 : decode cX1_fits 111 = .ok (.iconst 1, 1) := by decide +kernel
theorem dX1_fits_112 : decode cX1_fits 112 = .ok (.goto 4, 3) := by decide +kernel
theorem dX1_fits_115 : decode cX1_fits 115 = .ok (.iconst 0, 1) := by decide +kernel
theorem dX1_fits_116 : decode cX1_fits 116 = .ok (.ireturn, 1) := by decide +kernel
theorem dX1_fits_117 : decode cX1_fits 117 = .ok (.aload_n 0, 1) := by decide +kernel
theorem dX1_fits_118 : decode cX1_fits 118 = .ok (.iload_n 1, 1) := by decide +kernel
theorem dX1_fits_119 : decode cX1_fits 119 = .ok (.invokevirtual 108, 3) := by decide +kernel
theorem dX1_fits_122 : decode cX1_fits 122 = .ok (.ifCond .ne 17, 3) := by decide +kernel
theorem dX1_fits_125 : decode cX1_fits 125 = .ok (.aload_n 0, 1) := by decide +kernel
theorem dX1_fits_126 : decode cX1_fits 126 = .ok (.iload_n 2, 1) := by decide +kernel
theorem dX1_fits_127 : decode cX1_fits 127 = .ok (.iconst 0, 1) := by decide +kernel
theorem dX1_fits_128 : decode cX1_fits 128 = .ok (.sipush 255, 3) := by decide +kernel
theorem dX1_fits_131 : decode cX1_fits 131 = .ok (.invokevirtual 97, 3) := by decide +kernel
theorem dX1_fits_134 : decode cX1_fits 134 = .ok (.ifCond .eq 5, 3) := by decide +kernel
theorem dX1_fits_137 : decode cX1_fits 137 = .ok (.iconst 0, 1) := by decide +kernel
theorem dX1_fits_138 : decode cX1_fits 138 = .ok (.ireturn, 1) := by decide +kernel
theorem dX1_fits_139 : decode cX1_fits 139 = .ok (.iload_n 1, 1) := by decide +kernel
theorem dX1_fits_140 : decode cX1_fits 140 = .ok (.iconst 3, 1) := by decide +kernel
theorem dX1_fits_141 : decode cX1_fits 141 = .ok (.if_icmp .ne 20, 3) := by decide +kernel
theorem dX1_fits_144 : decode cX1_fits 144 = .ok (.aload_n 0, 1) := by decide +kernel
theorem dX1_fits_145 : decode cX1_fits 145 = .ok (.iload_n 3, 1) := by decide +kernel
theorem dX1_fits_146 : decode cX1_fits 146 = .ok (.iconst 0, 1) := by decide +kernel
theorem dX1_fits_147 : decode cX1_fits 147 = .ok (.bipush 99, 2) := by decide +kernel
theorem dX1_fits_149 : decode cX1_fits 149 = .ok (.invokevirtual 97, 3) := by decide +kernel
theorem dX1_fits_152 : decode cX1_fits 152 = .ok (.ifCond .ne 7, 3) := by decide +kernel
theorem dX1_fits_155 : decode cX1_fits 155 = .ok (.iconst 1, 1) := by decide +kernel
theorem dX1_fits_156 : decode cX1_fits 156 = .ok (.goto 4, 3) := by decide +kernel
theorem dX1_fits_159 : decode cX1_fits 159 = .ok (.iconst 0, 1) := by decide +kernel
theorem dX1_fits_160 : decode cX1_fits 160 = .ok (.ireturn, 1) := by decide +kernel
theorem dX1_fits_161 : decode cX1_fits 161 = .ok (.iload_n 1, 1) := by decide +kernel
theorem dX1_fits_162 : decode cX1_fits 162 = .ok (.iconst 5, 1) := by decide +kernel
theorem dX1_fits_163 : decode cX1_fits 163 = .ok (.if_icmp .ne 14, 3) := by decide +kernel
theorem dX1_fits_166 : decode cX1_fits 166 = .ok (.aload_n 0, 1) := by decide +kernel
theorem dX1_fits_167 : decode cX1_fits 167 = .ok (.iload_n 3, 1) := by decide +kernel
theorem dX1_fits_168 : decode cX1_fits 168 = .ok (.iconst 0, 1) := by decide +kernel
theorem dX1_fits_169 : decode cX1_fits 169 = .ok (.bipush 7, 2) := by decide +kernel
theorem dX1_fits_171 : decode cX1_fits 171 = .ok (.invokevirtual 97, 3) := by decide +kernel
theorem dX1_fits_174 : decode cX1_fits 174 = .ok (.ifCond .ne 7, 3) := by decide +kernel
theorem dX1_fits_177 : decode cX1_fits 177 = .ok (.iconst 1, 1) := by decide +kernel
theorem dX1_fits_178 : decode cX1_fits 178 = .ok (.goto 4, 3) := by decide +kernel
theorem dX1_fits_181 : decode cX1_fits 181 = .ok (.iconst 0, 1) := by decide +kernel
theorem dX1_fits_182 : decode cX1_fits 182 = .ok (.ireturn, 1) := by decide +kernel
theorem dX1_policy_0 : decode cX1_policy 0 = .ok (.aload_n 0, 1) := by decide +kernel
theorem dX1_policy_1 : decode cX1_policy 1 = .ok (.iload_n 1, 1) := by decide +kernel
theorem dX1_policy_2 : decode cX1_policy 2 = .ok (.iload_n 2, 1) := by decide +kernel
theorem dX1_policy_3 : decode cX1_policy 3 = .ok (.iload_n 3, 1) := by decide +kernel
theorem dX1_policy_4 : decode cX1_policy 4 = .ok (.iload 4, 2) := by decide +kernel
theorem dX1_policy_6 : decode cX1_policy 6 = .ok (.invokevirtual 118, 3) := by decide +kernel
theorem dX1_policy_9 : decode cX1_policy 9 = .ok (.ifCond .ne 9, 3) := by decide +kernel
theorem dX1_policy_12 : decode cX1_policy 12 = .ok (.aload_n 0, 1) := by decide +kernel
theorem dX1_policy_13 : decode cX1_policy 13 = .ok (.iconst 1, 1) := by decide +kernel
theorem dX1_policy_14 : decode cX1_policy 14 = .ok (.invokevirtual 101, 3) := by decide +kernel
theorem dX1_policy_17 : decode cX1_policy 17 = .ok (.ireturn, 1) := by decide +kernel
theorem dX1_policy_18 : decode cX1_policy 18 = .ok (.aload_n 0, 1) := by decide +kernel
theorem dX1_policy_19 : decode cX1_policy 19 = .ok (.iload_n 1, 1) := by decide +kernel
theorem dX1_policy_20 : decode cX1_policy 20 = .ok (.invokevirtual 108, 3) := by decide +kernel
theorem dX1_policy_23 : decode cX1_policy 23 = .ok (.istore 5, 2) := by decide +kernel
theorem dX1_policy_25 : decode cX1_policy 25 = .ok (.aload_n 0, 1) := by decide +kernel
theorem dX1_policy_26 : decode cX1_policy 26 = .ok (.iload_n 1, 1) := by decide +kernel
theorem dX1_policy_27 : decode cX1_policy 27 = .ok (.invokevirtual 115, 3) := by decide +kernel
theorem dX1_policy_30 : decode cX1_policy 30 = .ok (.istore 6, 2) := by decide +kernel
theorem dX1_policy_32 : decode cX1_policy 32 = .ok (.iload 5, 2) := by decide +kernel
theorem dX1_policy_34 : decode cX1_policy 34 = .ok (.ifCond .eq 12, 3) := by decide +kernel
theorem dX1_policy_37 : decode cX1_policy 37 = .ok (.aload_n 0, 1) := by decide +kernel
theorem dX1_policy_38 : decode cX1_policy 38 = .ok (.getfield 57, 3) := by decide +kernel
theorem dX1_policy_41 : decode cX1_policy 41 = .ok (.iload_n 2, 1) := by decide +kernel
theorem dX1_policy_42 : decode cX1_policy 42 = .ok (.baload, 1) := by decide +kernel
theorem dX1_policy_43 : decode cX1_policy 43 = .ok (.ifCond .ne 32, 3) := by decide +kernel
theorem dX1_policy_46 : decode cX1_policy 46 = .ok (.iload 6, 2) := by decide +kernel
theorem dX1_policy_48 : decode cX1_policy 48 = .ok (.ifCond .eq 12, 3) := by decide +kernel
theorem dX1_policy_51 : decode cX1_policy 51 = .ok (.aload_n 0, 1) := by decide +kernel
theorem dX1_policy_52 : decode cX1_policy 52 = .ok (.getfield 57, 3) := by decide +kernel
theorem dX1_policy_55 : decode cX1_policy 55 = .ok (.iload_n 3, 1) := by decide +kernel
theorem dX1_policy_56 : decode cX1_policy 56 = .ok (.baload, 1) := by decide +kernel
theorem dX1_policy_57 : decode cX1_policy 57 = .ok (.ifCond .ne 18, 3) := by decide +kernel
theorem dX1_policy_60 : decode cX1_policy 60 = .ok (.iload 5, 2) := by decide +kernel
theorem dX1_policy_62 : decode cX1_policy 62 = .ok (.ifCond .eq 19, 3) := by decide +kernel
theorem dX1_policy_65 : decode cX1_policy 65 = .ok (.iload 6, 2) := by decide +kernel
theorem dX1_policy_67 : decode cX1_policy 67 = .ok (.ifCond .eq 14, 3) := by decide +kernel
theorem dX1_policy_70 : decode cX1_policy 70 = .ok (.iload_n 2, 1) := by decide +kernel
theorem dX1_policy_71 : decode cX1_policy 71 = .ok (.iload_n 3, 1) := by decide +kernel
theorem dX1_policy_72 : decode cX1_policy 72 = .ok (.if_icmp .ne 9, 3) := by decide +kernel
theorem dX1_policy_75 : decode cX1_policy 75 = .ok (.aload_n 0, 1) := by decide +kernel
theorem dX1_policy_76 : decode cX1_policy 76 = .ok (.iconst 2, 1) := by decide +kernel
theorem dX1_policy_77 : decode cX1_policy 77 = .ok (.invokevirtual 101, 3) := by decide +kernel
theorem dX1_policy_80 : decode cX1_policy 80 = .ok (.ireturn, 1) := by decide +kernel
theorem dX1_policy_81 : decode cX1_policy 81 = .ok (.iload 5, 2) := by decide +kernel
theorem dX1_policy_83 : decode cX1_policy 83 = .ok (.ifCond .eq 12, 3) := by decide +kernel
theorem dX1_policy_86 : decode cX1_policy 86 = .ok (.aload_n 0, 1) := by decide +kernel
theorem dX1_policy_87 : decode cX1_policy 87 = .ok (.getfield 51, 3) := by decide +kernel
theorem dX1_policy_90 : decode cX1_policy 90 = .ok (.iload_n 2, 1) := by decide +kernel
theorem dX1_policy_91 : decode cX1_policy 91 = .ok (.iaload, 1) := by decide +kernel
theorem dX1_policy_92 : decode cX1_policy 92 = .ok (.goto 4, 3) := by decide +kernel
theorem dX1_policy_95 : decode cX1_policy 95 = .ok (.iconst 0, 1) := by decide +kernel
theorem dX1_policy_96 : decode cX1_policy 96 = .ok (.istore 7, 2) := by decide +kernel
theorem dX1_policy_98 : decode cX1_policy 98 = .ok (.iload 6, 2) := by decide +kernel
theorem dX1_policy_100 : decode cX1_policy 100 = .ok (.ifCond .eq 22, 3) := by decide +kernel
theorem dX1_policy_103 : decode cX1_policy 103 = .ok (.aload_n 0, 1) := by decide +kernel
theorem dX1_policy_104 : decode cX1_policy 104 = .ok (.getfield 51, 3) := by decide +kernel
theorem dX1_policy_107 : decode cX1_policy 107 = .ok (.iload_n 3, 1) := by decide +kernel
theorem dX1_policy_108 : decode cX1_policy 108 = .ok (.iaload, 1) := by decide +kernel
theorem dX1_policy_109 : decode cX1_policy 109 = .ok (.iload 7, 2) := by decide +kernel
theorem dX1_policy_111 : decode cX1_policy 111 = .ok (.if_icmp .le 11, 3) := by decide +kernel
theorem dX1_policy_114 : decode cX1_policy 114 = .ok (.aload_n 0, 1) := by decide +kernel
theorem dX1_policy_115 : decode cX1_policy 115 = .ok (.getfield 51, 3) := by decide +kernel
theorem dX1_policy_118 : decode cX1_policy 118 = .ok (.iload_n 3, 1) := by decide +kernel
theorem dX1_policy_119 : decode cX1_policy 119 = .ok (.iaload, 1) := by decide +kernel
theorem dX1_policy_120 : decode cX1_policy 120 = .ok (.istore 7, 2) := by decide +kernel
theorem dX1_policy_122 : decode cX1_policy 122 = .ok (.iload 7, 2) := by decide +kernel
theorem dX1_policy_124 : decode cX1_policy 124 = .ok (.bipush 7, 2) := by decide +kernel
theorem dX1_policy_126 : decode cX1_policy 126 = .ok (.if_icmp .ne 9, 3) := by decide +kernel
theorem dX1_policy_129 : decode cX1_policy 129 = .ok (.aload_n 0, 1) := by decide +kernel
theorem dX1_policy_130 : decode cX1_policy 130 = .ok (.iconst 3, 1) := by decide +kernel
theorem dX1_policy_131 : decode cX1_policy 131 = .ok (.invokevirtual 101, 3) := by decide +kernel
theorem dX1_policy_134 : decode cX1_policy 134 = .ok (.ireturn, 1) := by decide +kernel
theorem dX1_policy_135 : decode cX1_policy 135 = .ok (.aload_n 0, 1) := by decide +kernel
theorem dX1_policy_136 : decode cX1_policy 136 = .ok (.getfield 7, 3) := by decide +kernel
theorem dX1_policy_139 : decode cX1_policy 139 = .ok (.bipush 40, 2) := by decide +kernel
theorem dX1_policy_141 : decode cX1_policy 141 = .ok (.if_icmp .ne 9, 3) := by decide +kernel
theorem dX1_policy_144 : decode cX1_policy 144 = .ok (.aload_n 0, 1) := by decide +kernel
theorem dX1_policy_145 : decode cX1_policy 145 = .ok (.iconst 4, 1) := by decide +kernel
theorem dX1_policy_146 : decode cX1_policy 146 = .ok (.invokevirtual 101, 3) := by decide +kernel
theorem dX1_policy_149 : decode cX1_policy 149 = .ok (.ireturn, 1) := by decide +kernel
theorem dX1_policy_150 : decode cX1_policy 150 = .ok (.aload_n 0, 1) := by decide +kernel
theorem dX1_policy_151 : decode cX1_policy 151 = .ok (.getfield 38, 3) := by decide +kernel
theorem dX1_policy_154 : decode cX1_policy 154 = .ok (.aload_n 0, 1) := by decide +kernel
theorem dX1_policy_155 : decode cX1_policy 155 = .ok (.getfield 7, 3) := by decide +kernel
theorem dX1_policy_158 : decode cX1_policy 158 = .ok (.iload_n 1, 1) := by decide +kernel
theorem dX1_policy_159 : decode cX1_policy 159 = .ok (.iastore, 1) := by decide +kernel
theorem dX1_policy_160 : decode cX1_policy 160 = .ok (.aload_n 0, 1) := by decide +kernel
theorem dX1_policy_161 : decode cX1_policy 161 = .ok (.getfield 42, 3) := by decide +kernel
theorem dX1_policy_164 : decode cX1_policy 164 = .ok (.aload_n 0, 1) := by decide +kernel
theorem dX1_policy_165 : decode cX1_policy 165 = .ok (.getfield 7, 3) := by decide +kernel
theorem dX1_policy_168 : decode cX1_policy 168 = .ok (.iload_n 2, 1) := by decide +kernel
theorem dX1_policy_169 : decode cX1_policy 169 = .ok (.iastore, 1) := by decide +kernel
theorem dX1_policy_170 : decode cX1_policy 170 = .ok (.aload_n 0, 1) := by decide +kernel
theorem dX1_policy_171 : decode cX1_policy 171 = .ok (.getfield 45, 3) := by decide +kernel
theorem dX1_policy_174 : decode cX1_policy 174 = .ok (.aload_n 0, 1) := by decide +kernel
theorem dX1_policy_175 : decode cX1_policy 175 = .ok (.getfield 7, 3) := by decide +kernel
theorem dX1_policy_178 : decode cX1_policy 178 = .ok (.iload_n 3, 1) := by decide +kernel
theorem dX1_policy_179 : decode cX1_policy 179 = .ok (.iastore, 1) := by decide +kernel
theorem dX1_policy_180 : decode cX1_policy 180 = .ok (.aload_n 0, 1) := by decide +kernel
theorem dX1_policy_181 : decode cX1_policy 181 = .ok (.getfield 48, 3) := by decide +kernel
theorem dX1_policy_184 : decode cX1_policy 184 = .ok (.aload_n 0, 1) := by decide +kernel
theorem dX1_policy_185 : decode cX1_policy 185 = .ok (.getfield 7, 3) := by decide +kernel
theorem dX1_policy_188 : decode cX1_policy 188 = .ok (.iload 4, 2) := by decide +kernel
theorem dX1_policy_190 : decode cX1_policy 190 = .ok (.iastore, 1) := by decide +kernel
theorem dX1_policy_191 : decode cX1_policy 191 = .ok (.aload_n 0, 1) := by decide +kernel
theorem dX1_policy_192 : decode cX1_policy 192 = .ok (.getfield 51, 3) := by decide +kernel
theorem dX1_policy_195 : decode cX1_policy 195 = .ok (.aload_n 0, 1) := by decide +kernel
theorem dX1_policy_196 : decode cX1_policy 196 = .ok (.getfield 7, 3) := by decide +kernel
theorem dX1_policy_199 : decode cX1_policy 199 = .ok (.iload 7, 2) := by decide +kernel
theorem dX1_policy_201 : decode cX1_policy 201 = .ok (.iconst 1, 1) := by decide +kernel
theorem dX1_policy_202 : decode cX1_policy 202 = .ok (.iadd, 1) := by decide +kernel
theorem dX1_policy_203 : decode cX1_policy 203 = .ok (.iastore, 1) := by decide +kernel
theorem dX1_policy_204 : decode cX1_policy 204 = .ok (.iload 5, 2) := by decide +kernel
theorem dX1_policy_206 : decode cX1_policy 206 = .ok (.ifCond .eq 10, 3) := by decide +kernel
theorem dX1_policy_209 : decode cX1_policy 209 = .ok (.aload_n 0, 1) := by decide +kernel
theorem dX1_policy_210 : decode cX1_policy 210 = .ok (.getfield 57, 3) := by decide +kernel
theorem dX1_policy_213 : decode cX1_policy 213 = .ok (.iload_n 2, 1) := by decide +kernel
theorem dX1_policy_214 : decode cX1_policy 214 = .ok (.iconst 1, 1) := by decide +kernel
theorem dX1_policy_215 : decode cX1_policy 215 = .ok (.bastore, 1) := by decide +kernel
theorem dX1_policy_216 : decode cX1_policy 216 = .ok (.iload 6, 2) := by decide +kernel
theorem dX1_policy_218 : decode cX1_policy 218 = .ok (.ifCond .eq 10, 3) := by decide +kernel
theorem dX1_policy_221 : decode cX1_policy 221 = .ok (.aload_n 0, 1) := by decide +kernel
theorem dX1_policy_222 : decode cX1_policy 222 = .ok (.getfield 57, 3) := by decide +kernel
theorem dX1_policy_225 : decode cX1_policy 225 = .ok (.iload_n 3, 1) := by decide +kernel
theorem dX1_policy_226 : decode cX1_policy 226 = .ok (.iconst 1, 1) := by decide +kernel
theorem dX1_policy_227 : decode cX1_policy 227 = .ok (.bastore, 1) := by decide +kernel
theorem dX1_policy_228 : decode cX1_policy 228 = .ok (.aload_n 0, 1) := by decide +kernel
theorem dX1_policy_229 : decode cX1_policy 229 = .ok (.dup, 1) := by decide +kernel
theorem dX1_policy_230 : decode cX1_policy 230 = .ok (.getfield 7, 3) := by decide +kernel
theorem dX1_policy_233 : decode cX1_policy 233 = .ok (.iconst 1, 1) := by decide +kernel
theorem dX1_policy_234 : decode cX1_policy 234 = .ok (.iadd, 1) := by decide +kernel
theorem dX1_policy_235 : decode cX1_policy 235 = .ok (.putfield 7, 3) := by decide +kernel
theorem dX1_policy_238 : decode cX1_policy 238 = .ok (.aload_n 0, 1) := by decide +kernel
theorem dX1_policy_239 : decode cX1_policy 239 = .ok (.aload_n 0, 1) := by decide +kernel
theorem dX1_policy_240 : decode cX1_policy 240 = .ok (.getfield 7, 3) := by decide +kernel
theorem dX1_policy_243 : decode cX1_policy 243 = .ok (.iconst 1, 1) := by decide +kernel
theorem dX1_policy_244 : decode cX1_policy 244 = .ok (.isub, 1) := by decide +kernel
theorem dX1_policy_245 : decode cX1_policy 245 = .ok (.invokevirtual 105, 3) := by decide +kernel
theorem dX1_policy_248 : decode cX1_policy 248 = .ok (.ireturn, 1) := by decide +kernel
theorem dX1_install_0 : decode cX1_install 0 = .ok (.aload_n 0, 1) := by decide +kernel
theorem dX1_install_1 : decode cX1_install 1 = .ok (.iload_n 1, 1) := by decide +kernel
theorem dX1_install_2 : decode cX1_install 2 = .ok (.invokevirtual 112, 3) := by decide +kernel
theorem dX1_install_5 : decode cX1_install 5 = .ok (.ifCond .eq 9, 3) := by decide +kernel
theorem dX1_install_8 : decode cX1_install 8 = .ok (.aload_n 0, 1) := by decide +kernel
theorem dX1_install_9 : decode cX1_install 9 = .ok (.iconst 1, 1) := by decide +kernel
theorem dX1_install_10 : decode cX1_install 10 = .ok (.invokevirtual 101, 3) := by decide +kernel
theorem dX1_install_13 : decode cX1_install 13 = .ok (.ireturn, 1) := by decide +kernel
theorem dX1_install_14 : decode cX1_install 14 = .ok (.aload_n 0, 1) := by decide +kernel
theorem dX1_install_15 : decode cX1_install 15 = .ok (.iload_n 1, 1) := by decide +kernel
theorem dX1_install_16 : decode cX1_install 16 = .ok (.putfield 13, 3) := by decide +kernel
theorem dX1_install_19 : decode cX1_install 19 = .ok (.aload_n 0, 1) := by decide +kernel
theorem dX1_install_20 : decode cX1_install 20 = .ok (.iconst 0, 1) := by decide +kernel
theorem dX1_install_21 : decode cX1_install 21 = .ok (.putfield 34, 3) := by decide +kernel
theorem dX1_install_24 : decode cX1_install 24 = .ok (.iconst 0, 1) := by decide +kernel
theorem dX1_install_25 : decode cX1_install 25 = .ok (.istore_n 2, 1) := by decide +kernel
theorem dX1_install_26 : decode cX1_install 26 = .ok (.iload_n 2, 1) := by decide +kernel
theorem dX1_install_27 : decode cX1_install 27 = .ok (.bipush 40, 2) := by decide +kernel
theorem dX1_install_29 : decode cX1_install 29 = .ok (.if_icmp .ge 16, 3) := by decide +kernel
theorem dX1_install_32 : decode cX1_install 32 = .ok (.aload_n 0, 1) := by decide +kernel
theorem dX1_install_33 : decode cX1_install 33 = .ok (.getfield 54, 3) := by decide +kernel
theorem dX1_install_36 : decode cX1_install 36 = .ok (.iload_n 2, 1) := by decide +kernel
theorem dX1_install_37 : decode cX1_install 37 = .ok (.iconst 0, 1) := by decide +kernel
theorem dX1_install_38 : decode cX1_install 38 = .ok (.iastore, 1) := by decide +kernel
theorem dX1_install_39 : decode cX1_install 39 = .ok (.iinc 2 1, 3) := by decide +kernel
theorem dX1_install_42 : decode cX1_install 42 = .ok (.goto (-16), 3) := by decide +kernel
theorem dX1_install_45 : decode cX1_install 45 = .ok (.aload_n 0, 1) := by decide +kernel
theorem dX1_install_46 : decode cX1_install 46 = .ok (.iconst 0, 1) := by decide +kernel
theorem dX1_install_47 : decode cX1_install 47 = .ok (.invokevirtual 105, 3) := by decide +kernel
theorem dX1_install_50 : decode cX1_install 50 = .ok (.ireturn, 1) := by decide +kernel
theorem dX1_suggest_0 : decode cX1_suggest 0 = .ok (.aload_n 0, 1) := by decide +kernel
theorem dX1_suggest_1 : decode cX1_suggest 1 = .ok (.getfield 73, 3) := by decide +kernel
theorem dX1_suggest_4 : decode cX1_suggest 4 = .ok (.iload_n 1, 1) := by decide +kernel
theorem dX1_suggest_5 : decode cX1_suggest 5 = .ok (.iload_n 2, 1) := by decide +kernel
theorem dX1_suggest_6 : decode cX1_suggest 6 = .ok (.iastore, 1) := by decide +kernel
theorem dX1_suggest_7 : decode cX1_suggest 7 = .ok (.aload_n 0, 1) := by decide +kernel
theorem dX1_suggest_8 : decode cX1_suggest 8 = .ok (.getfield 82, 3) := by decide +kernel
theorem dX1_suggest_11 : decode cX1_suggest 11 = .ok (.iload_n 1, 1) := by decide +kernel
theorem dX1_suggest_12 : decode cX1_suggest 12 = .ok (.iconst (-1), 1) := by decide +kernel
theorem dX1_suggest_13 : decode cX1_suggest 13 = .ok (.iastore, 1) := by decide +kernel
theorem dX1_suggest_14 : decode cX1_suggest 14 = .ok (.return_, 1) := by decide +kernel
theorem dX1_same_0 : decode cX1_same 0 = .ok (.aload_n 0, 1) := by decide +kernel
theorem dX1_same_1 : decode cX1_same 1 = .ok (.getfield 73, 3) := by decide +kernel
theorem dX1_same_4 : decode cX1_same 4 = .ok (.iload_n 1, 1) := by decide +kernel
theorem dX1_same_5 : decode cX1_same 5 = .ok (.aload_n 0, 1) := by decide +kernel
theorem dX1_same_6 : decode cX1_same 6 = .ok (.getfield 73, 3) := by decide +kernel
theorem dX1_same_9 : decode cX1_same 9 = .ok (.iload_n 2, 1) := by decide +kernel
theorem dX1_same_10 : decode cX1_same 10 = .ok (.iaload, 1) := by decide +kernel
theorem dX1_same_11 : decode cX1_same 11 = .ok (.iastore, 1) := by decide +kernel
theorem dX1_same_12 : decode cX1_same 12 = .ok (.aload_n 0, 1) := by decide +kernel
theorem dX1_same_13 : decode cX1_same 13 = .ok (.getfield 76, 3) := by decide +kernel
theorem dX1_same_16 : decode cX1_same 16 = .ok (.iload_n 1, 1) := by decide +kernel
theorem dX1_same_17 : decode cX1_same 17 = .ok (.aload_n 0, 1) := by decide +kernel
theorem dX1_same_18 : decode cX1_same 18 = .ok (.getfield 76, 3) := by decide +kernel
theorem dX1_same_21 : decode cX1_same 21 = .ok (.iload_n 2, 1) := by decide +kernel
theorem dX1_same_22 : decode cX1_same 22 = .ok (.iaload, 1) := by decide +kernel
theorem dX1_same_23 : decode cX1_same 23 = .ok (.iastore, 1) := by decide +kernel
theorem dX1_same_24 : decode cX1_same 24 = .ok (.aload_n 0, 1) := by decide +kernel
theorem dX1_same_25 : decode cX1_same 25 = .ok (.getfield 79, 3) := by decide +kernel
theorem dX1_same_28 : decode cX1_same 28 = .ok (.iload_n 1, 1) := by decide +kernel
theorem dX1_same_29 : decode cX1_same 29 = .ok (.aload_n 0, 1) := by decide +kernel
theorem dX1_same_30 : decode cX1_same 30 = .ok (.getfield 79, 3) := by decide +kernel
theorem dX1_same_33 : decode cX1_same 33 = .ok (.iload_n 2, 1) := by decide +kernel
theorem dX1_same_34 : decode cX1_same 34 = .ok (.iaload, 1) := by decide +kernel
theorem dX1_same_35 : decode cX1_same 35 = .ok (.iastore, 1) := by decide +kernel
theorem dX1_same_36 : decode cX1_same 36 = .ok (.aload_n 0, 1) := by decide +kernel
theorem dX1_same_37 : decode cX1_same 37 = .ok (.getfield 82, 3) := by decide +kernel
theorem dX1_same_40 : decode cX1_same 40 = .ok (.iload_n 1, 1) := by decide +kernel
theorem dX1_same_41 : decode cX1_same 41 = .ok (.aload_n 0, 1) := by decide +kernel
theorem dX1_same_42 : decode cX1_same 42 = .ok (.getfield 82, 3) := by decide +kernel
theorem dX1_same_45 : decode cX1_same 45 = .ok (.iload_n 2, 1) := by decide +kernel
theorem dX1_same_46 : decode cX1_same 46 = .ok (.iaload, 1) := by decide +kernel
theorem dX1_same_47 : decode cX1_same 47 = .ok (.iastore, 1) := by decide +kernel
theorem dX1_same_48 : decode cX1_same 48 = .ok (.return_, 1) := by decide +kernel
theorem dX1_in_0 : decode cX1_in 0 = .ok (.iload_n 1, 1) := by decide +kernel
theorem dX1_in_1 : decode cX1_in 1 = .ok (.iload_n 2, 1) := by decide +kernel
theorem dX1_in_2 : decode cX1_in 2 = .ok (.ishr, 1) := by decide +kernel
theorem dX1_in_3 : decode cX1_in 3 = .ok (.iconst 1, 1) := by decide +kernel
theorem dX1_in_4 : decode cX1_in 4 = .ok (.iand, 1) := by decide +kernel
theorem dX1_in_5 : decode cX1_in 5 = .ok (.iconst 1, 1) := by decide +kernel
theorem dX1_in_6 : decode cX1_in 6 = .ok (.if_icmp .ne 7, 3) := by decide +kernel
theorem dX1_in_9 : decode cX1_in 9 = .ok (.iconst 1, 1) := by decide +kernel
theorem dX1_in_10 : decode cX1_in 10 = .ok (.goto 4, 3) := by decide +kernel
theorem dX1_in_13 : decode cX1_in 13 = .ok (.iconst 0, 1) := by decide +kernel
theorem dX1_in_14 : decode cX1_in 14 = .ok (.ireturn, 1) := by decide +kernel
theorem dX1_plain_0 : decode cX1_plain 0 = .ok (.aload_n 0, 1) := by decide +kernel
theorem dX1_plain_1 : decode cX1_plain 1 = .ok (.getfield 38, 3) := by decide +kernel
theorem dX1_plain_4 : decode cX1_plain 4 = .ok (.iload_n 1, 1) := by decide +kernel
theorem dX1_plain_5 : decode cX1_plain 5 = .ok (.iaload, 1) := by decide +kernel
theorem dX1_plain_6 : decode cX1_plain 6 = .ok (.istore 4, 2) := by decide +kernel
theorem dX1_plain_8 : decode cX1_plain 8 = .ok (.aload_n 0, 1) := by decide +kernel
theorem dX1_plain_9 : decode cX1_plain 9 = .ok (.getfield 42, 3) := by decide +kernel
theorem dX1_plain_12 : decode cX1_plain 12 = .ok (.iload_n 1, 1) := by decide +kernel
theorem dX1_plain_13 : decode cX1_plain 13 = .ok (.iaload, 1) := by decide +kernel
theorem dX1_plain_14 : decode cX1_plain 14 = .ok (.istore 5, 2) := by decide +kernel
theorem dX1_plain_16 : decode cX1_plain 16 = .ok (.aload_n 0, 1) := by decide +kernel
theorem dX1_plain_17 : decode cX1_plain 17 = .ok (.getfield 45, 3) := by decide +kernel
theorem dX1_plain_20 : decode cX1_plain 20 = .ok (.iload_n 1, 1) := by decide +kernel
theorem dX1_plain_21 : decode cX1_plain 21 = .ok (.iaload, 1) := by decide +kernel
theorem dX1_plain_22 : decode cX1_plain 22 = .ok (.istore 6, 2) := by decide +kernel
theorem dX1_plain_24 : decode cX1_plain 24 = .ok (.aload_n 0, 1) := by decide +kernel
theorem dX1_plain_25 : decode cX1_plain 25 = .ok (.getfield 48, 3) := by decide +kernel
theorem dX1_plain_28 : decode cX1_plain 28 = .ok (.iload_n 1, 1) := by decide +kernel
theorem dX1_plain_29 : decode cX1_plain 29 = .ok (.iaload, 1) := by decide +kernel
theorem dX1_plain_30 : decode cX1_plain 30 = .ok (.istore 7, 2) := by decide +kernel
theorem dX1_plain_32 : decode cX1_plain 32 = .ok (.iload 4, 2) := by decide +kernel
theorem dX1_plain_34 : decode cX1_plain 34 = .ok (.bipush 6, 2) := by decide +kernel
theorem dX1_plain_36 : decode cX1_plain 36 = .ok (.if_icmp .ne 54, 3) := by decide +kernel
theorem dX1_plain_39 : decode cX1_plain 39 = .ok (.aload_n 0, 1) := by decide +kernel
theorem dX1_plain_40 : decode cX1_plain 40 = .ok (.getfield 64, 3) := by decide +kernel
theorem dX1_plain_43 : decode cX1_plain 43 = .ok (.iload 5, 2) := by decide +kernel
theorem dX1_plain_45 : decode cX1_plain 45 = .ok (.bipush 32, 2) := by decide +kernel
theorem dX1_plain_47 : decode cX1_plain 47 = .ok (.imul, 1) := by decide +kernel
theorem dX1_plain_48 : decode cX1_plain 48 = .ok (.aload_n 0, 1) := by decide +kernel
theorem dX1_plain_49 : decode cX1_plain 49 = .ok (.getfield 54, 3) := by decide +kernel
theorem dX1_plain_52 : decode cX1_plain 52 = .ok (.iload_n 1, 1) := by decide +kernel
theorem dX1_plain_53 : decode cX1_plain 53 = .ok (.iaload, 1) := by decide +kernel
theorem dX1_plain_54 : decode cX1_plain 54 = .ok (.bipush 8, 2) := by decide +kernel
theorem dX1_plain_56 : decode cX1_plain 56 = .ok (.imul, 1) := by decide +kernel
theorem dX1_plain_57 : decode cX1_plain 57 = .ok (.iadd, 1) := by decide +kernel
theorem dX1_plain_58 : decode cX1_plain 58 = .ok (.iload_n 2, 1) := by decide +kernel
theorem dX1_plain_59 : decode cX1_plain 59 = .ok (.iadd, 1) := by decide +kernel
theorem dX1_plain_60 : decode cX1_plain 60 = .ok (.iaload, 1) := by decide +kernel
theorem dX1_plain_61 : decode cX1_plain 61 = .ok (.istore 8, 2) := by decide +kernel
theorem dX1_plain_63 : decode cX1_plain 63 = .ok (.aload_n 0, 1) := by decide +kernel
theorem dX1_plain_64 : decode cX1_plain 64 = .ok (.iload_n 1, 1) := by decide +kernel
theorem dX1_plain_65 : decode cX1_plain 65 = .ok (.iload 8, 2) := by decide +kernel
theorem dX1_plain_67 : decode cX1_plain 67 = .ok (.iconst 4, 1) := by decide +kernel
theorem dX1_plain_68 : decode cX1_plain 68 = .ok (.if_icmp .ge 7, 3) := by decide +kernel
theorem dX1_plain_71 : decode cX1_plain 71 = .ok (.iconst 1, 1) := by decide +kernel
theorem dX1_plain_72 : decode cX1_plain 72 = .ok (.goto 14, 3) := by decide +kernel
theorem dX1_plain_75 : decode cX1_plain 75 = .ok (.iload 8, 2) := by decide +kernel
theorem dX1_plain_77 : decode cX1_plain 77 = .ok (.iconst 4, 1) := by decide +kernel
theorem dX1_plain_78 : decode cX1_plain 78 = .ok (.if_icmp .ne 7, 3) := by decide +kernel
theorem dX1_plain_81 : decode cX1_plain 81 = .ok (.iconst 4, 1) := by decide +kernel
theorem dX1_plain_82 : decode cX1_plain 82 = .ok (.goto 4, 3) := by decide +kernel
theorem dX1_plain_85 : decode cX1_plain 85 = .ok (.iconst 0, 1) := by decide +kernel
theorem dX1_plain_86 : decode cX1_plain 86 = .ok (.invokevirtual 122, 3) := by decide +kernel
theorem dX1_plain_89 : decode cX1_plain 89 = .ok (.return_, 1) := by decide +kernel
theorem dX1_plain_90 : decode cX1_plain 90 = .ok (.aload_n 0, 1) := by decide +kernel
theorem dX1_plain_91 : decode cX1_plain 91 = .ok (.iload 5, 2) := by decide +kernel
theorem dX1_plain_93 : decode cX1_plain 93 = .ok (.iload_n 2, 1) := by decide +kernel
theorem dX1_plain_94 : decode cX1_plain 94 = .ok (.invokevirtual 126, 3) := by decide +kernel
theorem dX1_plain_97 : decode cX1_plain 97 = .ok (.istore 8, 2) := by decide +kernel
theorem dX1_plain_99 : decode cX1_plain 99 = .ok (.iload 8, 2) := by decide +kernel
theorem dX1_plain_101 : decode cX1_plain 101 = .ok (.ifCond .eq 18, 3) := by decide +kernel
theorem dX1_plain_104 : decode cX1_plain 104 = .ok (.iload 4, 2) := by decide +kernel
theorem dX1_plain_106 : decode cX1_plain 106 = .ok (.iconst 5, 1) := by decide +kernel
theorem dX1_plain_107 : decode cX1_plain 107 = .ok (.if_icmp .ne 21, 3) := by decide +kernel
theorem dX1_plain_110 : decode cX1_plain 110 = .ok (.aload_n 0, 1) := by decide +kernel
theorem dX1_plain_111 : decode cX1_plain 111 = .ok (.getfield 61, 3) := by decide +kernel
theorem dX1_plain_114 : decode cX1_plain 114 = .ok (.iload_n 1, 1) := by decide +kernel
theorem dX1_plain_115 : decode cX1_plain 115 = .ok (.baload, 1) := by decide +kernel
theorem dX1_plain_116 : decode cX1_plain 116 = .ok (.ifCond .eq 12, 3) := by decide +kernel
theorem dX1_plain_119 : decode cX1_plain 119 = .ok (.aload_n 0, 1) := by decide +kernel
theorem dX1_plain_120 : decode cX1_plain 120 = .ok (.iload_n 1, 1) := by decide +kernel
theorem dX1_plain_121 : decode cX1_plain 121 = .ok (.iconst 0, 1) := by decide +kernel
theorem dX1_plain_122 : decode cX1_plain 122 = .ok (.invokevirtual 122, 3) := by decide +kernel
theorem dX1_plain_125 : decode cX1_plain 125 = .ok (.goto 159, 3) := by decide +kernel
theorem dX1_plain_128 : decode cX1_plain 128 = .ok (.iload 4, 2) := by decide +kernel
theorem dX1_plain_130 : decode cX1_plain 130 = .ok (.ifCond .ne 12, 3) := by decide +kernel
theorem dX1_plain_133 : decode cX1_plain 133 = .ok (.aload_n 0, 1) := by decide +kernel
theorem dX1_plain_134 : decode cX1_plain 134 = .ok (.iload_n 1, 1) := by decide +kernel
theorem dX1_plain_135 : decode cX1_plain 135 = .ok (.iconst 1, 1) := by decide +kernel
theorem dX1_plain_136 : decode cX1_plain 136 = .ok (.invokevirtual 122, 3) := by decide +kernel
theorem dX1_plain_139 : decode cX1_plain 139 = .ok (.goto 145, 3) := by decide +kernel
theorem dX1_plain_142 : decode cX1_plain 142 = .ok (.iload 4, 2) := by decide +kernel
theorem dX1_plain_144 : decode cX1_plain 144 = .ok (.iconst 1, 1) := by decide +kernel
theorem dX1_plain_145 : decode cX1_plain 145 = .ok (.if_icmp .ne 12, 3) := by decide +kernel
theorem dX1_plain_148 : decode cX1_plain 148 = .ok (.aload_n 0, 1) := by decide +kernel
theorem dX1_plain_149 : decode cX1_plain 149 = .ok (.iload_n 1, 1) := by decide +kernel
theorem dX1_plain_150 : decode cX1_plain 150 = .ok (.iconst 4, 1) := by decide +kernel
theorem dX1_plain_151 : decode cX1_plain 151 = .ok (.invokevirtual 122, 3) := by decide +kernel
theorem dX1_plain_154 : decode cX1_plain 154 = .ok (.goto 130, 3) := by decide +kernel
theorem dX1_plain_157 : decode cX1_plain 157 = .ok (.iload 4, 2) := by decide +kernel
theorem dX1_plain_159 : decode cX1_plain 159 = .ok (.iconst 2, 1) := by decide +kernel
theorem dX1_plain_160 : decode cX1_plain 160 = .ok (.if_icmp .ne 12, 3) := by decide +kernel
theorem dX1_plain_163 : decode cX1_plain 163 = .ok (.aload_n 0, 1) := by decide +kernel
theorem dX1_plain_164 : decode cX1_plain 164 = .ok (.iload_n 1, 1) := by decide +kernel
theorem dX1_plain_165 : decode cX1_plain 165 = .ok (.iconst 5, 1) := by decide +kernel
theorem dX1_plain_166 : decode cX1_plain 166 = .ok (.invokevirtual 122, 3) := by decide +kernel
theorem dX1_plain_169 : decode cX1_plain 169 = .ok (.goto 115, 3) := by decide +kernel
theorem dX1_plain_172 : decode cX1_plain 172 = .ok (.iload 4, 2) := by decide +kernel
theorem dX1_plain_174 : decode cX1_plain 174 = .ok (.iconst 3, 1) := by decide +kernel
theorem dX1_plain_175 : decode cX1_plain 175 = .ok (.if_icmp .ne 27, 3) := by decide +kernel
theorem dX1_plain_178 : decode cX1_plain 178 = .ok (.aload_n 0, 1) := by decide +kernel
theorem dX1_plain_179 : decode cX1_plain 179 = .ok (.iload_n 1, 1) := by decide +kernel
theorem dX1_plain_180 : decode cX1_plain 180 = .ok (.aload_n 0, 1) := by decide +kernel
theorem dX1_plain_181 : decode cX1_plain 181 = .ok (.getfield 54, 3) := by decide +kernel
theorem dX1_plain_184 : decode cX1_plain 184 = .ok (.iload_n 1, 1) := by decide +kernel
theorem dX1_plain_185 : decode cX1_plain 185 = .ok (.iaload, 1) := by decide +kernel
theorem dX1_plain_186 : decode cX1_plain 186 = .ok (.iload 6, 2) := by decide +kernel
theorem dX1_plain_188 : decode cX1_plain 188 = .ok (.if_icmp .ge 7, 3) := by decide +kernel
theorem dX1_plain_191 : decode cX1_plain 191 = .ok (.iconst 1, 1) := by decide +kernel
theorem dX1_plain_192 : decode cX1_plain 192 = .ok (.goto 4, 3) := by decide +kernel
theorem dX1_plain_195 : decode cX1_plain 195 = .ok (.iconst 4, 1) := by decide +kernel
theorem dX1_plain_196 : decode cX1_plain 196 = .ok (.invokevirtual 122, 3) := by decide +kernel
theorem dX1_plain_199 : decode cX1_plain 199 = .ok (.goto 85, 3) := by decide +kernel
theorem dX1_plain_202 : decode cX1_plain 202 = .ok (.iload 4, 2) := by decide +kernel
theorem dX1_plain_204 : decode cX1_plain 204 = .ok (.bipush 7, 2) := by decide +kernel
theorem dX1_plain_206 : decode cX1_plain 206 = .ok (.if_icmp .ne 28, 3) := by decide +kernel
theorem dX1_plain_209 : decode cX1_plain 209 = .ok (.aload_n 0, 1) := by decide +kernel
theorem dX1_plain_210 : decode cX1_plain 210 = .ok (.iload_n 1, 1) := by decide +kernel
theorem dX1_plain_211 : decode cX1_plain 211 = .ok (.iload 6, 2) := by decide +kernel
theorem dX1_plain_213 : decode cX1_plain 213 = .ok (.iload_n 3, 1) := by decide +kernel
theorem dX1_plain_214 : decode cX1_plain 214 = .ok (.if_icmp .gt 13, 3) := by decide +kernel
theorem dX1_plain_217 : decode cX1_plain 217 = .ok (.iload_n 3, 1) := by decide +kernel
theorem dX1_plain_218 : decode cX1_plain 218 = .ok (.iload 7, 2) := by decide +kernel
theorem dX1_plain_220 : decode cX1_plain 220 = .ok (.if_icmp .gt 7, 3) := by decide +kernel
theorem dX1_plain_223 : decode cX1_plain 223 = .ok (.iconst 1, 1) := by decide +kernel
theorem dX1_plain_224 : decode cX1_plain 224 = .ok (.goto 4, 3) := by decide +kernel
theorem dX1_plain_227 : decode cX1_plain 227 = .ok (.iconst 4, 1) := by decide +kernel
theorem dX1_plain_228 : decode cX1_plain 228 = .ok (.invokevirtual 122, 3) := by decide +kernel
theorem dX1_plain_231 : decode cX1_plain 231 = .ok (.goto 53, 3) := by decide +kernel
theorem dX1_plain_234 : decode cX1_plain 234 = .ok (.aload_n 0, 1) := by decide +kernel
theorem dX1_plain_235 : decode cX1_plain 235 = .ok (.iload_n 1, 1) := by decide +kernel
theorem dX1_plain_236 : decode cX1_plain 236 = .ok (.iload 4, 2) := by decide +kernel
theorem dX1_plain_238 : decode cX1_plain 238 = .ok (.iconst 4, 1) := by decide +kernel
theorem dX1_plain_239 : decode cX1_plain 239 = .ok (.if_icmp .ne 7, 3) := by decide +kernel
theorem dX1_plain_242 : decode cX1_plain 242 = .ok (.iconst 3, 1) := by decide +kernel
theorem dX1_plain_243 : decode cX1_plain 243 = .ok (.goto 4, 3) := by decide +kernel
theorem dX1_plain_246 : decode cX1_plain 246 = .ok (.iconst 2, 1) := by decide +kernel
theorem dX1_plain_247 : decode cX1_plain 247 = .ok (.invokevirtual 122, 3) := by decide +kernel
theorem dX1_plain_250 : decode cX1_plain 250 = .ok (.aload_n 0, 1) := by decide +kernel
theorem dX1_plain_251 : decode cX1_plain 251 = .ok (.getfield 76, 3) := by decide +kernel
theorem dX1_plain_254 : decode cX1_plain 254 = .ok (.iload_n 1, 1) := by decide +kernel
theorem dX1_plain_255 : decode cX1_plain 255 = .ok (.iload 6, 2) := by decide +kernel
theorem dX1_plain_257 : decode cX1_plain 257 = .ok (.iastore, 1) := by decide +kernel
theorem dX1_plain_258 : decode cX1_plain 258 = .ok (.aload_n 0, 1) := by decide +kernel
theorem dX1_plain_259 : decode cX1_plain 259 = .ok (.getfield 79, 3) := by decide +kernel
theorem dX1_plain_262 : decode cX1_plain 262 = .ok (.iload_n 1, 1) := by decide +kernel
theorem dX1_plain_263 : decode cX1_plain 263 = .ok (.iload 4, 2) := by decide +kernel
theorem dX1_plain_265 : decode cX1_plain 265 = .ok (.iconst 4, 1) := by decide +kernel
theorem dX1_plain_266 : decode cX1_plain 266 = .ok (.if_icmp .ne 8, 3) := by decide +kernel
theorem dX1_plain_269 : decode cX1_plain 269 = .ok (.iload 6, 2) := by decide +kernel
theorem dX1_plain_271 : decode cX1_plain 271 = .ok (.goto 5, 3) := by decide +kernel
theorem dX1_plain_274 : decode cX1_plain 274 = .ok (.iload 7, 2) := by decide +kernel
theorem dX1_plain_276 : decode cX1_plain 276 = .ok (.iastore, 1) := by decide +kernel
theorem dX1_plain_277 : decode cX1_plain 277 = .ok (.aload_n 0, 1) := by decide +kernel
theorem dX1_plain_278 : decode cX1_plain 278 = .ok (.getfield 82, 3) := by decide +kernel
theorem dX1_plain_281 : decode cX1_plain 281 = .ok (.iload_n 1, 1) := by decide +kernel
theorem dX1_plain_282 : decode cX1_plain 282 = .ok (.iload_n 1, 1) := by decide +kernel
theorem dX1_plain_283 : decode cX1_plain 283 = .ok (.iastore, 1) := by decide +kernel
theorem dX1_plain_284 : decode cX1_plain 284 = .ok (.return_, 1) := by decide +kernel
theorem dX1_takesA_0 : decode cX1_takesA 0 = .ok (.iload_n 1, 1) := by decide +kernel
theorem dX1_takesA_1 : decode cX1_takesA 1 = .ok (.bipush 10, 2) := by decide +kernel
theorem dX1_takesA_3 : decode cX1_takesA 3 = .ok (.if_icmp .ne 18, 3) := by decide +kernel
theorem dX1_takesA_6 : decode cX1_takesA 6 = .ok (.aload_n 0, 1) := by decide +kernel
theorem dX1_takesA_7 : decode cX1_takesA 7 = .ok (.getfield 73, 3) := by decide +kernel
theorem dX1_takesA_10 : decode cX1_takesA 10 = .ok (.iload_n 2, 1) := by decide +kernel
theorem dX1_takesA_11 : decode cX1_takesA 11 = .ok (.iaload, 1) := by decide +kernel
theorem dX1_takesA_12 : decode cX1_takesA 12 = .ok (.ifCond .eq 7, 3) := by decide +kernel
theorem dX1_takesA_15 : decode cX1_takesA 15 = .ok (.iconst 1, 1) := by decide +kernel
theorem dX1_takesA_16 : decode cX1_takesA 16 = .ok (.goto 4, 3) := by decide +kernel
theorem dX1_takesA_19 : decode cX1_takesA 19 = .ok (.iconst 0, 1) := by decide +kernel
theorem dX1_takesA_20 : decode cX1_takesA 20 = .ok (.ireturn, 1) := by decide +kernel
theorem dX1_takesA_21 : decode cX1_takesA 21 = .ok (.iload_n 1, 1) := by decide +kernel
theorem dX1_takesA_22 : decode cX1_takesA 22 = .ok (.bipush 11, 2) := by decide +kernel
theorem dX1_takesA_24 : decode cX1_takesA 24 = .ok (.if_icmp .ne 19, 3) := by decide +kernel
theorem dX1_takesA_27 : decode cX1_takesA 27 = .ok (.aload_n 0, 1) := by decide +kernel
theorem dX1_takesA_28 : decode cX1_takesA 28 = .ok (.getfield 73, 3) := by decide +kernel
theorem dX1_takesA_31 : decode cX1_takesA 31 = .ok (.iload_n 2, 1) := by decide +kernel
theorem dX1_takesA_32 : decode cX1_takesA 32 = .ok (.iaload, 1) := by decide +kernel
theorem dX1_takesA_33 : decode cX1_takesA 33 = .ok (.iconst 1, 1) := by decide +kernel
theorem dX1_takesA_34 : decode cX1_takesA 34 = .ok (.if_icmp .le 7, 3) := by decide +kernel
theorem dX1_takesA_37 : decode cX1_takesA 37 = .ok (.iconst 1, 1) := by decide +kernel
theorem dX1_takesA_38 : decode cX1_takesA 38 = .ok (.goto 4, 3) := by decide +kernel
theorem dX1_takesA_41 : decode cX1_takesA 41 = .ok (.iconst 0, 1) := by decide +kernel
theorem dX1_takesA_42 : decode cX1_takesA 42 = .ok (.ireturn, 1) := by decide +kernel
theorem dX1_takesA_43 : decode cX1_takesA 43 = .ok (.aload_n 0, 1) := by decide +kernel
theorem dX1_takesA_44 : decode cX1_takesA 44 = .ok (.getfield 73, 3) := by decide +kernel
theorem dX1_takesA_47 : decode cX1_takesA 47 = .ok (.iload_n 3, 1) := by decide +kernel
theorem dX1_takesA_48 : decode cX1_takesA 48 = .ok (.iaload, 1) := by decide +kernel
theorem dX1_takesA_49 : decode cX1_takesA 49 = .ok (.ifCond .eq 27, 3) := by decide +kernel
theorem dX1_takesA_52 : decode cX1_takesA 52 = .ok (.aload_n 0, 1) := by decide +kernel
theorem dX1_takesA_53 : decode cX1_takesA 53 = .ok (.getfield 73, 3) := by decide +kernel
theorem dX1_takesA_56 : decode cX1_takesA 56 = .ok (.iload_n 2, 1) := by decide +kernel
theorem dX1_takesA_57 : decode cX1_takesA 57 = .ok (.iaload, 1) := by decide +kernel
theorem dX1_takesA_58 : decode cX1_takesA 58 = .ok (.ifCond .eq 22, 3) := by decide +kernel
theorem dX1_takesA_61 : decode cX1_takesA 61 = .ok (.aload_n 0, 1) := by decide +kernel
theorem dX1_takesA_62 : decode cX1_takesA 62 = .ok (.getfield 73, 3) := by decide +kernel
theorem dX1_takesA_65 : decode cX1_takesA 65 = .ok (.iload_n 2, 1) := by decide +kernel
theorem dX1_takesA_66 : decode cX1_takesA 66 = .ok (.iaload, 1) := by decide +kernel
theorem dX1_takesA_67 : decode cX1_takesA 67 = .ok (.aload_n 0, 1) := by decide +kernel
theorem dX1_takesA_68 : decode cX1_takesA 68 = .ok (.getfield 73, 3) := by decide +kernel
theorem dX1_takesA_71 : decode cX1_takesA 71 = .ok (.iload_n 3, 1) := by decide +kernel
theorem dX1_takesA_72 : decode cX1_takesA 72 = .ok (.iaload, 1) := by decide +kernel
theorem dX1_takesA_73 : decode cX1_takesA 73 = .ok (.if_icmp .gt 7, 3) := by decide +kernel
theorem dX1_takesA_76 : decode cX1_takesA 76 = .ok (.iconst 1, 1) := by decide +kernel
theorem dX1_takesA_77 : decode cX1_takesA 77 = .ok (.goto 4, 3) := by decide +kernel
theorem dX1_takesA_80 : decode cX1_takesA 80 = .ok (.iconst 0, 1) := by decide +kernel
theorem dX1_takesA_81 : decode cX1_takesA 81 = .ok (.ireturn, 1) := by decide +kernel
theorem dX1_next_0 : decode cX1_next 0 = .ok (.aload_n 0, 1) := by decide +kernel
theorem dX1_next_1 : decode cX1_next 1 = .ok (.getfield 38, 3) := by decide +kernel
theorem dX1_next_4 : decode cX1_next 4 = .ok (.iload_n 1, 1) := by decide +kernel
theorem dX1_next_5 : decode cX1_next 5 = .ok (.iaload, 1) := by decide +kernel
theorem dX1_next_6 : decode cX1_next 6 = .ok (.istore 4, 2) := by decide +kernel
theorem dX1_next_8 : decode cX1_next 8 = .ok (.iload 4, 2) := by decide +kernel
theorem dX1_next_10 : decode cX1_next 10 = .ok (.bipush 8, 2) := by decide +kernel
theorem dX1_next_12 : decode cX1_next 12 = .ok (.if_icmp .ge 5, 3) := by decide +kernel
theorem dX1_next_15 : decode cX1_next 15 = .ok (.iconst (-1), 1) := by decide +kernel
theorem dX1_next_16 : decode cX1_next 16 = .ok (.ireturn, 1) := by decide +kernel
theorem dX1_next_17 : decode cX1_next 17 = .ok (.iload 4, 2) := by decide +kernel
theorem dX1_next_19 : decode cX1_next 19 = .ok (.bipush 12, 2) := by decide +kernel
theorem dX1_next_21 : decode cX1_next 21 = .ok (.if_icmp .ne 32, 3) := by decide +kernel
theorem dX1_next_24 : decode cX1_next 24 = .ok (.iload_n 2, 1) := by decide +kernel
theorem dX1_next_25 : decode cX1_next 25 = .ok (.ifCond .ne 26, 3) := by decide +kernel
theorem dX1_next_28 : decode cX1_next 28 = .ok (.aload_n 0, 1) := by decide +kernel
theorem dX1_next_29 : decode cX1_next 29 = .ok (.aload_n 0, 1) := by decide +kernel
theorem dX1_next_30 : decode cX1_next 30 = .ok (.getfield 42, 3) := by decide +kernel
theorem dX1_next_33 : decode cX1_next 33 = .ok (.iload_n 1, 1) := by decide +kernel
theorem dX1_next_34 : decode cX1_next 34 = .ok (.iaload, 1) := by decide +kernel
theorem dX1_next_35 : decode cX1_next 35 = .ok (.iload_n 3, 1) := by decide +kernel
theorem dX1_next_36 : decode cX1_next 36 = .ok (.invokevirtual 126, 3) := by decide +kernel
theorem dX1_next_39 : decode cX1_next 39 = .ok (.ifCond .eq 12, 3) := by decide +kernel
theorem dX1_next_42 : decode cX1_next 42 = .ok (.aload_n 0, 1) := by decide +kernel
theorem dX1_next_43 : decode cX1_next 43 = .ok (.getfield 45, 3) := by decide +kernel
theorem dX1_next_46 : decode cX1_next 46 = .ok (.iload_n 1, 1) := by decide +kernel
theorem dX1_next_47 : decode cX1_next 47 = .ok (.iaload, 1) := by decide +kernel
theorem dX1_next_48 : decode cX1_next 48 = .ok (.goto 4, 3) := by decide +kernel
theorem dX1_next_51 : decode cX1_next 51 = .ok (.iconst (-1), 1) := by decide +kernel
theorem dX1_next_52 : decode cX1_next 52 = .ok (.ireturn, 1) := by decide +kernel
theorem dX1_next_53 : decode cX1_next 53 = .ok (.iload_n 2, 1) := by decide +kernel
theorem dX1_next_54 : decode cX1_next 54 = .ok (.ifCond .ne 10, 3) := by decide +kernel
theorem dX1_next_57 : decode cX1_next 57 = .ok (.aload_n 0, 1) := by decide +kernel
theorem dX1_next_58 : decode cX1_next 58 = .ok (.getfield 42, 3) := by decide +kernel
theorem dX1_next_61 : decode cX1_next 61 = .ok (.iload_n 1, 1) := by decide +kernel
theorem dX1_next_62 : decode cX1_next 62 = .ok (.iaload, 1) := by decide +kernel
theorem dX1_next_63 : decode cX1_next 63 = .ok (.ireturn, 1) := by decide +kernel
theorem dX1_next_64 : decode cX1_next 64 = .ok (.iload_n 2, 1) := by decide +kernel
theorem dX1_next_65 : decode cX1_next 65 = .ok (.iconst 1, 1) := by decide +kernel
theorem dX1_next_66 : decode cX1_next 66 = .ok (.if_icmp .gt 10, 3) := by decide +kernel
theorem dX1_next_69 : decode cX1_next 69 = .ok (.iload 4, 2) := by decide +kernel
theorem dX1_next_71 : decode cX1_next 71 = .ok (.bipush 12, 2) := by decide +kernel
theorem dX1_next_73 : decode cX1_next 73 = .ok (.if_icmp .le 5, 3) := by decide +kernel
theorem dX1_next_76 : decode cX1_next 76 = .ok (.iconst (-1), 1) := by decide +kernel
theorem dX1_next_77 : decode cX1_next 77 = .ok (.ireturn, 1) := by decide +kernel
theorem dX1_next_78 : decode cX1_next 78 = .ok (.iload 4, 2) := by decide +kernel
theorem dX1_next_80 : decode cX1_next 80 = .ok (.bipush 9, 2) := by decide +kernel
theorem dX1_next_82 : decode cX1_next 82 = .ok (.if_icmp .le 23, 3) := by decide +kernel
theorem dX1_next_85 : decode cX1_next 85 = .ok (.aload_n 0, 1) := by decide +kernel
theorem dX1_next_86 : decode cX1_next 86 = .ok (.iload 4, 2) := by decide +kernel
theorem dX1_next_88 : decode cX1_next 88 = .ok (.aload_n 0, 1) := by decide +kernel
theorem dX1_next_89 : decode cX1_next 89 = .ok (.getfield 42, 3) := by decide +kernel
theorem dX1_next_92 : decode cX1_next 92 = .ok (.iload_n 1, 1) := by decide +kernel
theorem dX1_next_93 : decode cX1_next 93 = .ok (.iaload, 1) := by decide +kernel
theorem dX1_next_94 : decode cX1_next 94 = .ok (.iconst 0, 1) := by decide +kernel
theorem dX1_next_95 : decode cX1_next 95 = .ok (.invokevirtual 130, 3) := by decide +kernel
theorem dX1_next_98 : decode cX1_next 98 = .ok (.ifCond .eq 7, 3) := by decide +kernel
theorem dX1_next_101 : decode cX1_next 101 = .ok (.iconst (-1), 1) := by decide +kernel
theorem dX1_next_102 : decode cX1_next 102 = .ok (.goto 9, 3) := by decide +kernel
theorem dX1_next_105 : decode cX1_next 105 = .ok (.aload_n 0, 1) := by decide +kernel
theorem dX1_next_106 : decode cX1_next 106 = .ok (.getfield 45, 3) := by decide +kernel
theorem dX1_next_109 : decode cX1_next 109 = .ok (.iload_n 1, 1) := by decide +kernel
theorem dX1_next_110 : decode cX1_next 110 = .ok (.iaload, 1) := by decide +kernel
theorem dX1_next_111 : decode cX1_next 111 = .ok (.ireturn, 1) := by decide +kernel
theorem dX1_combine_0 : decode cX1_combine 0 = .ok (.aload_n 0, 1) := by decide +kernel
theorem dX1_combine_1 : decode cX1_combine 1 = .ok (.getfield 38, 3) := by decide +kernel
theorem dX1_combine_4 : decode cX1_combine 4 = .ok (.iload_n 1, 1) := by decide +kernel
theorem dX1_combine_5 : decode cX1_combine 5 = .ok (.iaload, 1) := by decide +kernel
theorem dX1_combine_6 : decode cX1_combine 6 = .ok (.istore 5, 2) := by decide +kernel
theorem dX1_combine_8 : decode cX1_combine 8 = .ok (.aload_n 0, 1) := by decide +kernel
theorem dX1_combine_9 : decode cX1_combine 9 = .ok (.getfield 42, 3) := by decide +kernel
theorem dX1_combine_12 : decode cX1_combine 12 = .ok (.iload_n 1, 1) := by decide +kernel
theorem dX1_combine_13 : decode cX1_combine 13 = .ok (.iaload, 1) := by decide +kernel
theorem dX1_combine_14 : decode cX1_combine 14 = .ok (.istore 6, 2) := by decide +kernel
theorem dX1_combine_16 : decode cX1_combine 16 = .ok (.aload_n 0, 1) := by decide +kernel
theorem dX1_combine_17 : decode cX1_combine 17 = .ok (.getfield 45, 3) := by decide +kernel
theorem dX1_combine_20 : decode cX1_combine 20 = .ok (.iload_n 1, 1) := by decide +kernel
theorem dX1_combine_21 : decode cX1_combine 21 = .ok (.iaload, 1) := by decide +kernel
theorem dX1_combine_22 : decode cX1_combine 22 = .ok (.istore 7, 2) := by decide +kernel
theorem dX1_combine_24 : decode cX1_combine 24 = .ok (.iload 5, 2) := by decide +kernel
theorem dX1_combine_26 : decode cX1_combine 26 = .ok (.bipush 8, 2) := by decide +kernel
theorem dX1_combine_28 : decode cX1_combine 28 = .ok (.if_icmp .ge 13, 3) := by decide +kernel
theorem dX1_combine_31 : decode cX1_combine 31 = .ok (.aload_n 0, 1) := by decide +kernel
theorem dX1_combine_32 : decode cX1_combine 32 = .ok (.iload_n 1, 1) := by decide +kernel
theorem dX1_combine_33 : decode cX1_combine 33 = .ok (.iload_n 2, 1) := by decide +kernel
theorem dX1_combine_34 : decode cX1_combine 34 = .ok (.iload_n 3, 1) := by decide +kernel
theorem dX1_combine_35 : decode cX1_combine 35 = .ok (.invokevirtual 133, 3) := by decide +kernel
theorem dX1_combine_38 : decode cX1_combine 38 = .ok (.goto 228, 3) := by decide +kernel
theorem dX1_combine_41 : decode cX1_combine 41 = .ok (.iload 5, 2) := by decide +kernel
theorem dX1_combine_43 : decode cX1_combine 43 = .ok (.bipush 8, 2) := by decide +kernel
theorem dX1_combine_45 : decode cX1_combine 45 = .ok (.if_icmp .ne 35, 3) := by decide +kernel
theorem dX1_combine_48 : decode cX1_combine 48 = .ok (.aload_n 0, 1) := by decide +kernel
theorem dX1_combine_49 : decode cX1_combine 49 = .ok (.iload_n 1, 1) := by decide +kernel
theorem dX1_combine_50 : decode cX1_combine 50 = .ok (.aload_n 0, 1) := by decide +kernel
theorem dX1_combine_51 : decode cX1_combine 51 = .ok (.getfield 73, 3) := by decide +kernel
theorem dX1_combine_54 : decode cX1_combine 54 = .ok (.iload 6, 2) := by decide +kernel
theorem dX1_combine_56 : decode cX1_combine 56 = .ok (.iaload, 1) := by decide +kernel
theorem dX1_combine_57 : decode cX1_combine 57 = .ok (.aload_n 0, 1) := by decide +kernel
theorem dX1_combine_58 : decode cX1_combine 58 = .ok (.getfield 73, 3) := by decide +kernel
theorem dX1_combine_61 : decode cX1_combine 61 = .ok (.iload 7, 2) := by decide +kernel
theorem dX1_combine_63 : decode cX1_combine 63 = .ok (.iaload, 1) := by decide +kernel
theorem dX1_combine_64 : decode cX1_combine 64 = .ok (.if_icmp .lt 8, 3) := by decide +kernel
theorem dX1_combine_67 : decode cX1_combine 67 = .ok (.iload 6, 2) := by decide +kernel
theorem dX1_combine_69 : decode cX1_combine 69 = .ok (.goto 5, 3) := by decide +kernel
theorem dX1_combine_72 : decode cX1_combine 72 = .ok (.iload 7, 2) := by decide +kernel
theorem dX1_combine_74 : decode cX1_combine 74 = .ok (.invokevirtual 137, 3) := by decide +kernel
theorem dX1_combine_77 : decode cX1_combine 77 = .ok (.goto 189, 3) := by decide +kernel
theorem dX1_combine_80 : decode cX1_combine 80 = .ok (.iload 5, 2) := by decide +kernel
theorem dX1_combine_82 : decode cX1_combine 82 = .ok (.bipush 12, 2) := by decide +kernel
theorem dX1_combine_84 : decode cX1_combine 84 = .ok (.if_icmp .ge 31, 3) := by decide +kernel
theorem dX1_combine_87 : decode cX1_combine 87 = .ok (.aload_n 0, 1) := by decide +kernel
theorem dX1_combine_88 : decode cX1_combine 88 = .ok (.iload_n 1, 1) := by decide +kernel
theorem dX1_combine_89 : decode cX1_combine 89 = .ok (.aload_n 0, 1) := by decide +kernel
theorem dX1_combine_90 : decode cX1_combine 90 = .ok (.iload 5, 2) := by decide +kernel
theorem dX1_combine_92 : decode cX1_combine 92 = .ok (.iload 6, 2) := by decide +kernel
theorem dX1_combine_94 : decode cX1_combine 94 = .ok (.iload 7, 2) := by decide +kernel
theorem dX1_combine_96 : decode cX1_combine 96 = .ok (.invokevirtual 130, 3) := by decide +kernel
theorem dX1_combine_99 : decode cX1_combine 99 = .ok (.ifCond .eq 8, 3) := by decide +kernel
theorem dX1_combine_102 : decode cX1_combine 102 = .ok (.iload 6, 2) := by decide +kernel
theorem dX1_combine_104 : decode cX1_combine 104 = .ok (.goto 5, 3) := by decide +kernel
theorem dX1_combine_107 : decode cX1_combine 107 = .ok (.iload 7, 2) := by decide +kernel
theorem dX1_combine_109 : decode cX1_combine 109 = .ok (.invokevirtual 137, 3) := by decide +kernel
theorem dX1_combine_112 : decode cX1_combine 112 = .ok (.goto 154, 3) := by decide +kernel
theorem dX1_combine_115 : decode cX1_combine 115 = .ok (.iload 5, 2) := by decide +kernel
theorem dX1_combine_117 : decode cX1_combine 117 = .ok (.bipush 12, 2) := by decide +kernel
theorem dX1_combine_119 : decode cX1_combine 119 = .ok (.if_icmp .ne 32, 3) := by decide +kernel
theorem dX1_combine_122 : decode cX1_combine 122 = .ok (.aload_n 0, 1) := by decide +kernel
theorem dX1_combine_123 : decode cX1_combine 123 = .ok (.iload 6, 2) := by decide +kernel
theorem dX1_combine_125 : decode cX1_combine 125 = .ok (.iload_n 2, 1) := by decide +kernel
theorem dX1_combine_126 : decode cX1_combine 126 = .ok (.invokevirtual 126, 3) := by decide +kernel
theorem dX1_combine_129 : decode cX1_combine 129 = .ok (.ifCond .eq 13, 3) := by decide +kernel
theorem dX1_combine_132 : decode cX1_combine 132 = .ok (.aload_n 0, 1) := by decide +kernel
theorem dX1_combine_133 : decode cX1_combine 133 = .ok (.iload_n 1, 1) := by decide +kernel
theorem dX1_combine_134 : decode cX1_combine 134 = .ok (.iload 7, 2) := by decide +kernel
theorem dX1_combine_136 : decode cX1_combine 136 = .ok (.invokevirtual 137, 3) := by decide +kernel
theorem dX1_combine_139 : decode cX1_combine 139 = .ok (.goto 127, 3) := by decide +kernel
theorem dX1_combine_142 : decode cX1_combine 142 = .ok (.aload_n 0, 1) := by decide +kernel
theorem dX1_combine_143 : decode cX1_combine 143 = .ok (.iload_n 1, 1) := by decide +kernel
theorem dX1_combine_144 : decode cX1_combine 144 = .ok (.iconst 0, 1) := by decide +kernel
theorem dX1_combine_145 : decode cX1_combine 145 = .ok (.invokevirtual 122, 3) := by decide +kernel
theorem dX1_combine_148 : decode cX1_combine 148 = .ok (.goto 118, 3) := by decide +kernel
theorem dX1_combine_151 : decode cX1_combine 151 = .ok (.aload_n 0, 1) := by decide +kernel
theorem dX1_combine_152 : decode cX1_combine 152 = .ok (.iload_n 1, 1) := by decide +kernel
theorem dX1_combine_153 : decode cX1_combine 153 = .ok (.iload 6, 2) := by decide +kernel
theorem dX1_combine_155 : decode cX1_combine 155 = .ok (.invokevirtual 137, 3) := by decide +kernel
theorem dX1_combine_158 : decode cX1_combine 158 = .ok (.iload 5, 2) := by decide +kernel
theorem dX1_combine_160 : decode cX1_combine 160 = .ok (.bipush 14, 2) := by decide +kernel
theorem dX1_combine_162 : decode cX1_combine 162 = .ok (.if_icmp .ne 25, 3) := by decide +kernel
theorem dX1_combine_165 : decode cX1_combine 165 = .ok (.aload_n 0, 1) := by decide +kernel
theorem dX1_combine_166 : decode cX1_combine 166 = .ok (.getfield 73, 3) := by decide +kernel
theorem dX1_combine_169 : decode cX1_combine 169 = .ok (.iload_n 1, 1) := by decide +kernel
theorem dX1_combine_170 : decode cX1_combine 170 = .ok (.iaload, 1) := by decide +kernel
theorem dX1_combine_171 : decode cX1_combine 171 = .ok (.iload 7, 2) := by decide +kernel
theorem dX1_combine_173 : decode cX1_combine 173 = .ok (.if_icmp .ne 14, 3) := by decide +kernel
theorem dX1_combine_176 : decode cX1_combine 176 = .ok (.aload_n 0, 1) := by decide +kernel
theorem dX1_combine_177 : decode cX1_combine 177 = .ok (.iload_n 1, 1) := by decide +kernel
theorem dX1_combine_178 : decode cX1_combine 178 = .ok (.aload_n 0, 1) := by decide +kernel
theorem dX1_combine_179 : decode cX1_combine 179 = .ok (.getfield 48, 3) := by decide +kernel
theorem dX1_combine_182 : decode cX1_combine 182 = .ok (.iload_n 1, 1) := by decide +kernel
theorem dX1_combine_183 : decode cX1_combine 183 = .ok (.iaload, 1) := by decide +kernel
theorem dX1_combine_184 : decode cX1_combine 184 = .ok (.invokevirtual 122, 3) := by decide +kernel
theorem dX1_combine_187 : decode cX1_combine 187 = .ok (.iload 5, 2) := by decide +kernel
theorem dX1_combine_189 : decode cX1_combine 189 = .ok (.bipush 13, 2) := by decide +kernel
theorem dX1_combine_191 : decode cX1_combine 191 = .ok (.if_icmp .ne 75, 3) := by decide +kernel
theorem dX1_combine_194 : decode cX1_combine 194 = .ok (.iload 4, 2) := by decide +kernel
theorem dX1_combine_196 : decode cX1_combine 196 = .ok (.ifCond .eq 70, 3) := by decide +kernel
theorem dX1_combine_199 : decode cX1_combine 199 = .ok (.aload_n 0, 1) := by decide +kernel
theorem dX1_combine_200 : decode cX1_combine 200 = .ok (.getfield 73, 3) := by decide +kernel
theorem dX1_combine_203 : decode cX1_combine 203 = .ok (.iload_n 1, 1) := by decide +kernel
theorem dX1_combine_204 : decode cX1_combine 204 = .ok (.iaload, 1) := by decide +kernel
theorem dX1_combine_205 : decode cX1_combine 205 = .ok (.ifCond .eq 61, 3) := by decide +kernel
theorem dX1_combine_208 : decode cX1_combine 208 = .ok (.bipush 15, 2) := by decide +kernel
theorem dX1_combine_210 : decode cX1_combine 210 = .ok (.istore 8, 2) := by decide +kernel
theorem dX1_combine_212 : decode cX1_combine 212 = .ok (.iload 8, 2) := by decide +kernel
theorem dX1_combine_214 : decode cX1_combine 214 = .ok (.ifCond .le 25, 3) := by decide +kernel
theorem dX1_combine_217 : decode cX1_combine 217 = .ok (.aload_n 0, 1) := by decide +kernel
theorem dX1_combine_218 : decode cX1_combine 218 = .ok (.getfield 70, 3) := by decide +kernel
theorem dX1_combine_221 : decode cX1_combine 221 = .ok (.iload 8, 2) := by decide +kernel
theorem dX1_combine_223 : decode cX1_combine 223 = .ok (.aload_n 0, 1) := by decide +kernel
theorem dX1_combine_224 : decode cX1_combine 224 = .ok (.getfield 70, 3) := by decide +kernel
theorem dX1_combine_227 : decode cX1_combine 227 = .ok (.iload 8, 2) := by decide +kernel
theorem dX1_combine_229 : decode cX1_combine 229 = .ok (.iconst 1, 1) := by decide +kernel
theorem dX1_combine_230 : decode cX1_combine 230 = .ok (.isub, 1) := by decide +kernel
theorem dX1_combine_231 : decode cX1_combine 231 = .ok (.iaload, 1) := by decide +kernel
theorem dX1_combine_232 : decode cX1_combine 232 = .ok (.iastore, 1) := by decide +kernel
theorem dX1_combine_233 : decode cX1_combine 233 = .ok (.iinc 8 (-1), 3) := by decide +kernel
theorem dX1_combine_236 : decode cX1_combine 236 = .ok (.goto (-24), 3) := by decide +kernel
theorem dX1_combine_239 : decode cX1_combine 239 = .ok (.aload_n 0, 1) := by decide +kernel
theorem dX1_combine_240 : decode cX1_combine 240 = .ok (.getfield 70, 3) := by decide +kernel
theorem dX1_combine_243 : decode cX1_combine 243 = .ok (.iconst 0, 1) := by decide +kernel
theorem dX1_combine_244 : decode cX1_combine 244 = .ok (.bipush 16, 2) := by decide +kernel
theorem dX1_combine_246 : decode cX1_combine 246 = .ok (.aload_n 0, 1) := by decide +kernel
theorem dX1_combine_247 : decode cX1_combine 247 = .ok (.getfield 73, 3) := by decide +kernel
theorem dX1_combine_250 : decode cX1_combine 250 = .ok (.iload_n 1, 1) := by decide +kernel
theorem dX1_combine_251 : decode cX1_combine 251 = .ok (.iaload, 1) := by decide +kernel
theorem dX1_combine_252 : decode cX1_combine 252 = .ok (.imul, 1) := by decide +kernel
theorem dX1_combine_253 : decode cX1_combine 253 = .ok (.iload_n 2, 1) := by decide +kernel
theorem dX1_combine_254 : decode cX1_combine 254 = .ok (.iadd, 1) := by decide +kernel
theorem dX1_combine_255 : decode cX1_combine 255 = .ok (.iastore, 1) := by decide +kernel
theorem dX1_combine_256 : decode cX1_combine 256 = .ok (.aload_n 0, 1) := by decide +kernel
theorem dX1_combine_257 : decode cX1_combine 257 = .ok (.dup, 1) := by decide +kernel
theorem dX1_combine_258 : decode cX1_combine 258 = .ok (.getfield 16, 3) := by decide +kernel
theorem dX1_combine_261 : decode cX1_combine 261 = .ok (.iconst 1, 1) := by decide +kernel
theorem dX1_combine_262 : decode cX1_combine 262 = .ok (.iadd, 1) := by decide +kernel
theorem dX1_combine_263 : decode cX1_combine 263 = .ok (.putfield 16, 3) := by decide +kernel
theorem dX1_combine_266 : decode cX1_combine 266 = .ok (.return_, 1) := by decide +kernel
theorem dX1_askAll_0 : decode cX1_askAll 0 = .ok (.iconst 1, 1) := by decide +kernel
theorem dX1_askAll_1 : decode cX1_askAll 1 = .ok (.istore 4, 2) := by decide +kernel
theorem dX1_askAll_3 : decode cX1_askAll 3 = .ok (.aload_n 0, 1) := by decide +kernel
theorem dX1_askAll_4 : decode cX1_askAll 4 = .ok (.getfield 85, 3) := by decide +kernel
theorem dX1_askAll_7 : decode cX1_askAll 7 = .ok (.iconst 0, 1) := by decide +kernel
theorem dX1_askAll_8 : decode cX1_askAll 8 = .ok (.aload_n 0, 1) := by decide +kernel
theorem dX1_askAll_9 : decode cX1_askAll 9 = .ok (.getfield 13, 3) := by decide +kernel
theorem dX1_askAll_12 : decode cX1_askAll 12 = .ok (.iastore, 1) := by decide +kernel
theorem dX1_askAll_13 : decode cX1_askAll 13 = .ok (.aload_n 0, 1) := by decide +kernel
theorem dX1_askAll_14 : decode cX1_askAll 14 = .ok (.getfield 88, 3) := by decide +kernel
theorem dX1_askAll_17 : decode cX1_askAll 17 = .ok (.iconst 0, 1) := by decide +kernel
theorem dX1_askAll_18 : decode cX1_askAll 18 = .ok (.iconst 0, 1) := by decide +kernel
theorem dX1_askAll_19 : decode cX1_askAll 19 = .ok (.iastore, 1) := by decide +kernel
theorem dX1_askAll_20 : decode cX1_askAll 20 = .ok (.iload 4, 2) := by decide +kernel
theorem dX1_askAll_22 : decode cX1_askAll 22 = .ok (.ifCond .le 88, 3) := by decide +kernel
theorem dX1_askAll_25 : decode cX1_askAll 25 = .ok (.aload_n 0, 1) := by decide +kernel
theorem dX1_askAll_26 : decode cX1_askAll 26 = .ok (.getfield 85, 3) := by decide +kernel
theorem dX1_askAll_29 : decode cX1_askAll 29 = .ok (.iload 4, 2) := by decide +kernel
theorem dX1_askAll_31 : decode cX1_askAll 31 = .ok (.iconst 1, 1) := by decide +kernel
theorem dX1_askAll_32 : decode cX1_askAll 32 = .ok (.isub, 1) := by decide +kernel
theorem dX1_askAll_33 : decode cX1_askAll 33 = .ok (.iaload, 1) := by decide +kernel
theorem dX1_askAll_34 : decode cX1_askAll 34 = .ok (.istore 5, 2) := by decide +kernel
theorem dX1_askAll_36 : decode cX1_askAll 36 = .ok (.aload_n 0, 1) := by decide +kernel
theorem dX1_askAll_37 : decode cX1_askAll 37 = .ok (.iload 5, 2) := by decide +kernel
theorem dX1_askAll_39 : decode cX1_askAll 39 = .ok (.aload_n 0, 1) := by decide +kernel
theorem dX1_askAll_40 : decode cX1_askAll 40 = .ok (.getfield 88, 3) := by decide +kernel
theorem dX1_askAll_43 : decode cX1_askAll 43 = .ok (.iload 4, 2) := by decide +kernel
theorem dX1_askAll_45 : decode cX1_askAll 45 = .ok (.iconst 1, 1) := by decide +kernel
theorem dX1_askAll_46 : decode cX1_askAll 46 = .ok (.isub, 1) := by decide +kernel
theorem dX1_askAll_47 : decode cX1_askAll 47 = .ok (.iaload, 1) := by decide +kernel
theorem dX1_askAll_48 : decode cX1_askAll 48 = .ok (.iload_n 1, 1) := by decide +kernel
theorem dX1_askAll_49 : decode cX1_askAll 49 = .ok (.invokevirtual 140, 3) := by decide +kernel
theorem dX1_askAll_52 : decode cX1_askAll 52 = .ok (.istore 6, 2) := by decide +kernel
theorem dX1_askAll_54 : decode cX1_askAll 54 = .ok (.iload 6, 2) := by decide +kernel
theorem dX1_askAll_56 : decode cX1_askAll 56 = .ok (.ifCond .ge 18, 3) := by decide +kernel
theorem dX1_askAll_59 : decode cX1_askAll 59 = .ok (.aload_n 0, 1) := by decide +kernel
theorem dX1_askAll_60 : decode cX1_askAll 60 = .ok (.iload 5, 2) := by decide +kernel
theorem dX1_askAll_62 : decode cX1_askAll 62 = .ok (.iload_n 1, 1) := by decide +kernel
theorem dX1_askAll_63 : decode cX1_askAll 63 = .ok (.iload_n 2, 1) := by decide +kernel
theorem dX1_askAll_64 : decode cX1_askAll 64 = .ok (.iload_n 3, 1) := by decide +kernel
theorem dX1_askAll_65 : decode cX1_askAll 65 = .ok (.invokevirtual 144, 3) := by decide +kernel
theorem dX1_askAll_68 : decode cX1_askAll 68 = .ok (.iinc 4 (-1), 3) := by decide +kernel
theorem dX1_askAll_71 : decode cX1_askAll 71 = .ok (.goto (-51), 3) := by decide +kernel
theorem dX1_askAll_74 : decode cX1_askAll 74 = .ok (.aload_n 0, 1) := by decide +kernel
theorem dX1_askAll_75 : decode cX1_askAll 75 = .ok (.getfield 88, 3) := by decide +kernel
theorem dX1_askAll_78 : decode cX1_askAll 78 = .ok (.iload 4, 2) := by decide +kernel
theorem dX1_askAll_80 : decode cX1_askAll 80 = .ok (.iconst 1, 1) := by decide +kernel
theorem dX1_askAll_81 : decode cX1_askAll 81 = .ok (.isub, 1) := by decide +kernel
theorem dX1_askAll_82 : decode cX1_askAll 82 = .ok (.dup2, 1) := by decide +kernel
theorem dX1_askAll_83 : decode cX1_askAll 83 = .ok (.iaload, 1) := by decide +kernel
theorem dX1_askAll_84 : decode cX1_askAll 84 = .ok (.iconst 1, 1) := by decide +kernel
theorem dX1_askAll_85 : decode cX1_askAll 85 = .ok (.iadd, 1) := by decide +kernel
theorem dX1_askAll_86 : decode cX1_askAll 86 = .ok (.iastore, 1) := by decide +kernel
theorem dX1_askAll_87 : decode cX1_askAll 87 = .ok (.aload_n 0, 1) := by decide +kernel
theorem dX1_askAll_88 : decode cX1_askAll 88 = .ok (.getfield 85, 3) := by decide +kernel
theorem dX1_askAll_91 : decode cX1_askAll 91 = .ok (.iload 4, 2) := by decide +kernel
theorem dX1_askAll_93 : decode cX1_askAll 93 = .ok (.iload 6, 2) := by decide +kernel
theorem dX1_askAll_95 : decode cX1_askAll 95 = .ok (.iastore, 1) := by decide +kernel
theorem dX1_askAll_96 : decode cX1_askAll 96 = .ok (.aload_n 0, 1) := by decide +kernel
theorem dX1_askAll_97 : decode cX1_askAll 97 = .ok (.getfield 88, 3) := by decide +kernel
theorem dX1_askAll_100 : decode cX1_askAll 100 = .ok (.iload 4, 2) := by decide +kernel
theorem dX1_askAll_102 : decode cX1_askAll 102 = .ok (.iconst 0, 1) := by decide +kernel
theorem dX1_askAll_103 : decode cX1_askAll 103 = .ok (.iastore, 1) := by decide +kernel
theorem dX1_askAll_104 : decode cX1_askAll 104 = .ok (.iinc 4 1, 3) := by decide +kernel
theorem dX1_askAll_107 : decode cX1_askAll 107 = .ok (.goto (-87), 3) := by decide +kernel
theorem dX1_askAll_110 : decode cX1_askAll 110 = .ok (.aload_n 0, 1) := by decide +kernel
theorem dX1_askAll_111 : decode cX1_askAll 111 = .ok (.getfield 73, 3) := by decide +kernel
theorem dX1_askAll_114 : decode cX1_askAll 114 = .ok (.aload_n 0, 1) := by decide +kernel
theorem dX1_askAll_115 : decode cX1_askAll 115 = .ok (.getfield 13, 3) := by decide +kernel
theorem dX1_askAll_118 : decode cX1_askAll 118 = .ok (.iaload, 1) := by decide +kernel
theorem dX1_askAll_119 : decode cX1_askAll 119 = .ok (.ireturn, 1) := by decide +kernel
theorem dX1_accept_0 : decode cX1_accept 0 = .ok (.iconst 1, 1) := by decide +kernel
theorem dX1_accept_1 : decode cX1_accept 1 = .ok (.istore_n 3, 1) := by decide +kernel
theorem dX1_accept_2 : decode cX1_accept 2 = .ok (.aload_n 0, 1) := by decide +kernel
theorem dX1_accept_3 : decode cX1_accept 3 = .ok (.iload_n 1, 1) := by decide +kernel
theorem dX1_accept_4 : decode cX1_accept 4 = .ok (.iload_n 2, 1) := by decide +kernel
theorem dX1_accept_5 : decode cX1_accept 5 = .ok (.iconst 0, 1) := by decide +kernel
theorem dX1_accept_6 : decode cX1_accept 6 = .ok (.invokevirtual 148, 3) := by decide +kernel
theorem dX1_accept_9 : decode cX1_accept 9 = .ok (.pop, 1) := by decide +kernel
theorem dX1_accept_10 : decode cX1_accept 10 = .ok (.aload_n 0, 1) := by decide +kernel
theorem dX1_accept_11 : decode cX1_accept 11 = .ok (.getfield 85, 3) := by decide +kernel
theorem dX1_accept_14 : decode cX1_accept 14 = .ok (.iconst 0, 1) := by decide +kernel
theorem dX1_accept_15 : decode cX1_accept 15 = .ok (.aload_n 0, 1) := by decide +kernel
theorem dX1_accept_16 : decode cX1_accept 16 = .ok (.getfield 13, 3) := by decide +kernel
theorem dX1_accept_19 : decode cX1_accept 19 = .ok (.iastore, 1) := by decide +kernel
theorem dX1_accept_20 : decode cX1_accept 20 = .ok (.iload_n 3, 1) := by decide +kernel
theorem dX1_accept_21 : decode cX1_accept 21 = .ok (.ifCond .le 238, 3) := by decide +kernel
theorem dX1_accept_24 : decode cX1_accept 24 = .ok (.iinc 3 (-1), 3) := by decide +kernel
theorem dX1_accept_27 : decode cX1_accept 27 = .ok (.aload_n 0, 1) := by decide +kernel
theorem dX1_accept_28 : decode cX1_accept 28 = .ok (.getfield 85, 3) := by decide +kernel
theorem dX1_accept_31 : decode cX1_accept 31 = .ok (.iload_n 3, 1) := by decide +kernel
theorem dX1_accept_32 : decode cX1_accept 32 = .ok (.iaload, 1) := by decide +kernel
theorem dX1_accept_33 : decode cX1_accept 33 = .ok (.istore 4, 2) := by decide +kernel
theorem dX1_accept_35 : decode cX1_accept 35 = .ok (.aload_n 0, 1) := by decide +kernel
theorem dX1_accept_36 : decode cX1_accept 36 = .ok (.getfield 38, 3) := by decide +kernel
theorem dX1_accept_39 : decode cX1_accept 39 = .ok (.iload 4, 2) := by decide +kernel
theorem dX1_accept_41 : decode cX1_accept 41 = .ok (.iaload, 1) := by decide +kernel
theorem dX1_accept_42 : decode cX1_accept 42 = .ok (.istore 5, 2) := by decide +kernel
theorem dX1_accept_44 : decode cX1_accept 44 = .ok (.aload_n 0, 1) := by decide +kernel
theorem dX1_accept_45 : decode cX1_accept 45 = .ok (.getfield 42, 3) := by decide +kernel
theorem dX1_accept_48 : decode cX1_accept 48 = .ok (.iload 4, 2) := by decide +kernel
theorem dX1_accept_50 : decode cX1_accept 50 = .ok (.iaload, 1) := by decide +kernel
theorem dX1_accept_51 : decode cX1_accept 51 = .ok (.istore 6, 2) := by decide +kernel
theorem dX1_accept_53 : decode cX1_accept 53 = .ok (.aload_n 0, 1) := by decide +kernel
theorem dX1_accept_54 : decode cX1_accept 54 = .ok (.getfield 45, 3) := by decide +kernel
theorem dX1_accept_57 : decode cX1_accept 57 = .ok (.iload 4, 2) := by decide +kernel
theorem dX1_accept_59 : decode cX1_accept 59 = .ok (.iaload, 1) := by decide +kernel
theorem dX1_accept_60 : decode cX1_accept 60 = .ok (.istore 7, 2) := by decide +kernel
theorem dX1_accept_62 : decode cX1_accept 62 = .ok (.iload 5, 2) := by decide +kernel
theorem dX1_accept_64 : decode cX1_accept 64 = .ok (.iconst 3, 1) := by decide +kernel
theorem dX1_accept_65 : decode cX1_accept 65 = .ok (.if_icmp .ne 24, 3) := by decide +kernel
theorem dX1_accept_68 : decode cX1_accept 68 = .ok (.aload_n 0, 1) := by decide +kernel
theorem dX1_accept_69 : decode cX1_accept 69 = .ok (.iload 6, 2) := by decide +kernel
theorem dX1_accept_71 : decode cX1_accept 71 = .ok (.iload_n 1, 1) := by decide +kernel
theorem dX1_accept_72 : decode cX1_accept 72 = .ok (.invokevirtual 126, 3) := by decide +kernel
theorem dX1_accept_75 : decode cX1_accept 75 = .ok (.ifCond .eq 14, 3) := by decide +kernel
theorem dX1_accept_78 : decode cX1_accept 78 = .ok (.aload_n 0, 1) := by decide +kernel
theorem dX1_accept_79 : decode cX1_accept 79 = .ok (.getfield 54, 3) := by decide +kernel
theorem dX1_accept_82 : decode cX1_accept 82 = .ok (.iload 4, 2) := by decide +kernel
theorem dX1_accept_84 : decode cX1_accept 84 = .ok (.dup2, 1) := by decide +kernel
theorem dX1_accept_85 : decode cX1_accept 85 = .ok (.iaload, 1) := by decide +kernel
theorem dX1_accept_86 : decode cX1_accept 86 = .ok (.iconst 1, 1) := by decide +kernel
theorem dX1_accept_87 : decode cX1_accept 87 = .ok (.iadd, 1) := by decide +kernel
theorem dX1_accept_88 : decode cX1_accept 88 = .ok (.iastore, 1) := by decide +kernel
theorem dX1_accept_89 : decode cX1_accept 89 = .ok (.iload 5, 2) := by decide +kernel
theorem dX1_accept_91 : decode cX1_accept 91 = .ok (.bipush 6, 2) := by decide +kernel
theorem dX1_accept_93 : decode cX1_accept 93 = .ok (.if_icmp .ne 60, 3) := by decide +kernel
theorem dX1_accept_96 : decode cX1_accept 96 = .ok (.aload_n 0, 1) := by decide +kernel
theorem dX1_accept_97 : decode cX1_accept 97 = .ok (.getfield 64, 3) := by decide +kernel
theorem dX1_accept_100 : decode cX1_accept 100 = .ok (.iload 6, 2) := by decide +kernel
theorem dX1_accept_102 : decode cX1_accept 102 = .ok (.bipush 32, 2) := by decide +kernel
theorem dX1_accept_104 : decode cX1_accept 104 = .ok (.imul, 1) := by decide +kernel
theorem dX1_accept_105 : decode cX1_accept 105 = .ok (.aload_n 0, 1) := by decide +kernel
theorem dX1_accept_106 : decode cX1_accept 106 = .ok (.getfield 54, 3) := by decide +kernel
theorem dX1_accept_109 : decode cX1_accept 109 = .ok (.iload 4, 2) := by decide +kernel
theorem dX1_accept_111 : decode cX1_accept 111 = .ok (.iaload, 1) := by decide +kernel
theorem dX1_accept_112 : decode cX1_accept 112 = .ok (.bipush 8, 2) := by decide +kernel
theorem dX1_accept_114 : decode cX1_accept 114 = .ok (.imul, 1) := by decide +kernel
theorem dX1_accept_115 : decode cX1_accept 115 = .ok (.iadd, 1) := by decide +kernel
theorem dX1_accept_116 : decode cX1_accept 116 = .ok (.iload_n 1, 1) := by decide +kernel
theorem dX1_accept_117 : decode cX1_accept 117 = .ok (.iadd, 1) := by decide +kernel
theorem dX1_accept_118 : decode cX1_accept 118 = .ok (.iaload, 1) := by decide +kernel
theorem dX1_accept_119 : decode cX1_accept 119 = .ok (.iconst 4, 1) := by decide +kernel
theorem dX1_accept_120 : decode cX1_accept 120 = .ok (.if_icmp .ge 33, 3) := by decide +kernel
theorem dX1_accept_123 : decode cX1_accept 123 = .ok (.aload_n 0, 1) := by decide +kernel
theorem dX1_accept_124 : decode cX1_accept 124 = .ok (.getfield 54, 3) := by decide +kernel
theorem dX1_accept_127 : decode cX1_accept 127 = .ok (.iload 4, 2) := by decide +kernel
theorem dX1_accept_129 : decode cX1_accept 129 = .ok (.aload_n 0, 1) := by decide +kernel
theorem dX1_accept_130 : decode cX1_accept 130 = .ok (.getfield 64, 3) := by decide +kernel
theorem dX1_accept_133 : decode cX1_accept 133 = .ok (.iload 6, 2) := by decide +kernel
theorem dX1_accept_135 : decode cX1_accept 135 = .ok (.bipush 32, 2) := by decide +kernel
theorem dX1_accept_137 : decode cX1_accept 137 = .ok (.imul, 1) := by decide +kernel
theorem dX1_accept_138 : decode cX1_accept 138 = .ok (.aload_n 0, 1) := by decide +kernel
theorem dX1_accept_139 : decode cX1_accept 139 = .ok (.getfield 54, 3) := by decide +kernel
theorem dX1_accept_142 : decode cX1_accept 142 = .ok (.iload 4, 2) := by decide +kernel
theorem dX1_accept_144 : decode cX1_accept 144 = .ok (.iaload, 1) := by decide +kernel
theorem dX1_accept_145 : decode cX1_accept 145 = .ok (.bipush 8, 2) := by decide +kernel
theorem dX1_accept_147 : decode cX1_accept 147 = .ok (.imul, 1) := by decide +kernel
theorem dX1_accept_148 : decode cX1_accept 148 = .ok (.iadd, 1) := by decide +kernel
theorem dX1_accept_149 : decode cX1_accept 149 = .ok (.iload_n 1, 1) := by decide +kernel
theorem dX1_accept_150 : decode cX1_accept 150 = .ok (.iadd, 1) := by decide +kernel
theorem dX1_accept_151 : decode cX1_accept 151 = .ok (.iaload, 1) := by decide +kernel
theorem dX1_accept_152 : decode cX1_accept 152 = .ok (.iastore, 1) := by decide +kernel
theorem dX1_accept_153 : decode cX1_accept 153 = .ok (.iload 5, 2) := by decide +kernel
theorem dX1_accept_155 : decode cX1_accept 155 = .ok (.bipush 8, 2) := by decide +kernel
theorem dX1_accept_157 : decode cX1_accept 157 = .ok (.if_icmp .eq 20, 3) := by decide +kernel
theorem dX1_accept_160 : decode cX1_accept 160 = .ok (.iload 5, 2) := by decide +kernel
theorem dX1_accept_162 : decode cX1_accept 162 = .ok (.bipush 12, 2) := by decide +kernel
theorem dX1_accept_164 : decode cX1_accept 164 = .ok (.if_icmp .ne 24, 3) := by decide +kernel
theorem dX1_accept_167 : decode cX1_accept 167 = .ok (.aload_n 0, 1) := by decide +kernel
theorem dX1_accept_168 : decode cX1_accept 168 = .ok (.iload 6, 2) := by decide +kernel
theorem dX1_accept_170 : decode cX1_accept 170 = .ok (.iload_n 1, 1) := by decide +kernel
theorem dX1_accept_171 : decode cX1_accept 171 = .ok (.invokevirtual 126, 3) := by decide +kernel
theorem dX1_accept_174 : decode cX1_accept 174 = .ok (.ifCond .eq 14, 3) := by decide +kernel
theorem dX1_accept_177 : decode cX1_accept 177 = .ok (.aload_n 0, 1) := by decide +kernel
theorem dX1_accept_178 : decode cX1_accept 178 = .ok (.getfield 85, 3) := by decide +kernel
theorem dX1_accept_181 : decode cX1_accept 181 = .ok (.iload_n 3, 1) := by decide +kernel
theorem dX1_accept_182 : decode cX1_accept 182 = .ok (.iload 7, 2) := by decide +kernel
theorem dX1_accept_184 : decode cX1_accept 184 = .ok (.iastore, 1) := by decide +kernel
theorem dX1_accept_185 : decode cX1_accept 185 = .ok (.iinc 3 1, 3) := by decide +kernel
theorem dX1_accept_188 : decode cX1_accept 188 = .ok (.iload 5, 2) := by decide +kernel
theorem dX1_accept_190 : decode cX1_accept 190 = .ok (.bipush 8, 2) := by decide +kernel
theorem dX1_accept_192 : decode cX1_accept 192 = .ok (.if_icmp .eq 10, 3) := by decide +kernel
theorem dX1_accept_195 : decode cX1_accept 195 = .ok (.iload 5, 2) := by decide +kernel
theorem dX1_accept_197 : decode cX1_accept 197 = .ok (.bipush 12, 2) := by decide +kernel
theorem dX1_accept_199 : decode cX1_accept 199 = .ok (.if_icmp .le 14, 3) := by decide +kernel
theorem dX1_accept_202 : decode cX1_accept 202 = .ok (.aload_n 0, 1) := by decide +kernel
theorem dX1_accept_203 : decode cX1_accept 203 = .ok (.getfield 85, 3) := by decide +kernel
theorem dX1_accept_206 : decode cX1_accept 206 = .ok (.iload_n 3, 1) := by decide +kernel
theorem dX1_accept_207 : decode cX1_accept 207 = .ok (.iload 6, 2) := by decide +kernel
theorem dX1_accept_209 : decode cX1_accept 209 = .ok (.iastore, 1) := by decide +kernel
theorem dX1_accept_210 : decode cX1_accept 210 = .ok (.iinc 3 1, 3) := by decide +kernel
theorem dX1_accept_213 : decode cX1_accept 213 = .ok (.iload 5, 2) := by decide +kernel
theorem dX1_accept_215 : decode cX1_accept 215 = .ok (.bipush 8, 2) := by decide +kernel
theorem dX1_accept_217 : decode cX1_accept 217 = .ok (.if_icmp .le 39, 3) := by decide +kernel
theorem dX1_accept_220 : decode cX1_accept 220 = .ok (.iload 5, 2) := by decide +kernel
theorem dX1_accept_222 : decode cX1_accept 222 = .ok (.bipush 12, 2) := by decide +kernel
theorem dX1_accept_224 : decode cX1_accept 224 = .ok (.if_icmp .ge 32, 3) := by decide +kernel
theorem dX1_accept_227 : decode cX1_accept 227 = .ok (.aload_n 0, 1) := by decide +kernel
theorem dX1_accept_228 : decode cX1_accept 228 = .ok (.getfield 85, 3) := by decide +kernel
theorem dX1_accept_231 : decode cX1_accept 231 = .ok (.iload_n 3, 1) := by decide +kernel
theorem dX1_accept_232 : decode cX1_accept 232 = .ok (.aload_n 0, 1) := by decide +kernel
theorem dX1_accept_233 : decode cX1_accept 233 = .ok (.iload 5, 2) := by decide +kernel
theorem dX1_accept_235 : decode cX1_accept 235 = .ok (.iload 6, 2) := by decide +kernel
theorem dX1_accept_237 : decode cX1_accept 237 = .ok (.iload 7, 2) := by decide +kernel
theorem dX1_accept_239 : decode cX1_accept 239 = .ok (.invokevirtual 130, 3) := by decide +kernel
theorem dX1_accept_242 : decode cX1_accept 242 = .ok (.ifCond .eq 8, 3) := by decide +kernel
theorem dX1_accept_245 : decode cX1_accept 245 = .ok (.iload 6, 2) := by decide +kernel
theorem dX1_accept_247 : decode cX1_accept 247 = .ok (.goto 5, 3) := by decide +kernel
theorem dX1_accept_250 : decode cX1_accept 250 = .ok (.iload 7, 2) := by decide +kernel
theorem dX1_accept_252 : decode cX1_accept 252 = .ok (.iastore, 1) := by decide +kernel
theorem dX1_accept_253 : decode cX1_accept 253 = .ok (.iinc 3 1, 3) := by decide +kernel
theorem dX1_accept_256 : decode cX1_accept 256 = .ok (.goto (-236), 3) := by decide +kernel
theorem dX1_accept_259 : decode cX1_accept 259 = .ok (.return_, 1) := by decide +kernel
theorem dX1_perform_0 : decode cX1_perform 0 = .ok (.aload_n 0, 1) := by decide +kernel
theorem dX1_perform_1 : decode cX1_perform 1 = .ok (.getfield 67, 3) := by decide +kernel
theorem dX1_perform_4 : decode cX1_perform 4 = .ok (.iload_n 1, 1) := by decide +kernel
theorem dX1_perform_5 : decode cX1_perform 5 = .ok (.dup2, 1) := by decide +kernel
theorem dX1_perform_6 : decode cX1_perform 6 = .ok (.iaload, 1) := by decide +kernel
theorem dX1_perform_7 : decode cX1_perform 7 = .ok (.iload_n 2, 1) := by decide +kernel
theorem dX1_perform_8 : decode cX1_perform 8 = .ok (.iadd, 1) := by decide +kernel
theorem dX1_perform_9 : decode cX1_perform 9 = .ok (.iastore, 1) := by decide +kernel
theorem dX1_perform_10 : decode cX1_perform 10 = .ok (.aload_n 0, 1) := by decide +kernel
theorem dX1_perform_11 : decode cX1_perform 11 = .ok (.aload_n 0, 1) := by decide +kernel
theorem dX1_perform_12 : decode cX1_perform 12 = .ok (.getfield 67, 3) := by decide +kernel
theorem dX1_perform_15 : decode cX1_perform 15 = .ok (.iload_n 1, 1) := by decide +kernel
theorem dX1_perform_16 : decode cX1_perform 16 = .ok (.iaload, 1) := by decide +kernel
theorem dX1_perform_17 : decode cX1_perform 17 = .ok (.putfield 31, 3) := by decide +kernel
theorem dX1_perform_20 : decode cX1_perform 20 = .ok (.aload_n 0, 1) := by decide +kernel
theorem dX1_perform_21 : decode cX1_perform 21 = .ok (.dup, 1) := by decide +kernel
theorem dX1_perform_22 : decode cX1_perform 22 = .ok (.getfield 19, 3) := by decide +kernel
theorem dX1_perform_25 : decode cX1_perform 25 = .ok (.iconst 1, 1) := by decide +kernel
theorem dX1_perform_26 : decode cX1_perform 26 = .ok (.iadd, 1) := by decide +kernel
theorem dX1_perform_27 : decode cX1_perform 27 = .ok (.putfield 19, 3) := by decide +kernel
theorem dX1_perform_30 : decode cX1_perform 30 = .ok (.return_, 1) := by decide +kernel
theorem dX1_acting_0 : decode cX1_acting 0 = .ok (.iconst 1, 1) := by decide +kernel
theorem dX1_acting_1 : decode cX1_acting 1 = .ok (.istore_n 1, 1) := by decide +kernel
theorem dX1_acting_2 : decode cX1_acting 2 = .ok (.iload_n 1, 1) := by decide +kernel
theorem dX1_acting_3 : decode cX1_acting 3 = .ok (.ifCond .le 181, 3) := by decide +kernel
theorem dX1_acting_6 : decode cX1_acting 6 = .ok (.aload_n 0, 1) := by decide +kernel
theorem dX1_acting_7 : decode cX1_acting 7 = .ok (.getfield 91, 3) := by decide +kernel
theorem dX1_acting_10 : decode cX1_acting 10 = .ok (.iload_n 1, 1) := by decide +kernel
theorem dX1_acting_11 : decode cX1_acting 11 = .ok (.iconst 1, 1) := by decide +kernel
theorem dX1_acting_12 : decode cX1_acting 12 = .ok (.isub, 1) := by decide +kernel
theorem dX1_acting_13 : decode cX1_acting 13 = .ok (.iaload, 1) := by decide +kernel
theorem dX1_acting_14 : decode cX1_acting 14 = .ok (.istore_n 2, 1) := by decide +kernel
theorem dX1_acting_15 : decode cX1_acting 15 = .ok (.aload_n 0, 1) := by decide +kernel
theorem dX1_acting_16 : decode cX1_acting 16 = .ok (.getfield 94, 3) := by decide +kernel
theorem dX1_acting_19 : decode cX1_acting 19 = .ok (.iload_n 1, 1) := by decide +kernel
theorem dX1_acting_20 : decode cX1_acting 20 = .ok (.iconst 1, 1) := by decide +kernel
theorem dX1_acting_21 : decode cX1_acting 21 = .ok (.isub, 1) := by decide +kernel
theorem dX1_acting_22 : decode cX1_acting 22 = .ok (.iaload, 1) := by decide +kernel
theorem dX1_acting_23 : decode cX1_acting 23 = .ok (.istore_n 3, 1) := by decide +kernel
theorem dX1_acting_24 : decode cX1_acting 24 = .ok (.aload_n 0, 1) := by decide +kernel
theorem dX1_acting_25 : decode cX1_acting 25 = .ok (.getfield 13, 3) := by decide +kernel
theorem dX1_acting_28 : decode cX1_acting 28 = .ok (.ifCond .ge 7, 3) := by decide +kernel
theorem dX1_acting_31 : decode cX1_acting 31 = .ok (.iconst (-1), 1) := by decide +kernel
theorem dX1_acting_32 : decode cX1_acting 32 = .ok (.goto 10, 3) := by decide +kernel
theorem dX1_acting_35 : decode cX1_acting 35 = .ok (.aload_n 0, 1) := by decide +kernel
theorem dX1_acting_36 : decode cX1_acting 36 = .ok (.iload_n 2, 1) := by decide +kernel
theorem dX1_acting_37 : decode cX1_acting 37 = .ok (.iload_n 3, 1) := by decide +kernel
theorem dX1_acting_38 : decode cX1_acting 38 = .ok (.iconst 1, 1) := by decide +kernel
theorem dX1_acting_39 : decode cX1_acting 39 = .ok (.invokevirtual 148, 3) := by decide +kernel
theorem dX1_acting_42 : decode cX1_acting 42 = .ok (.istore 4, 2) := by decide +kernel
theorem dX1_acting_44 : decode cX1_acting 44 = .ok (.iload 4, 2) := by decide +kernel
theorem dX1_acting_46 : decode cX1_acting 46 = .ok (.iconst 5, 1) := by decide +kernel
theorem dX1_acting_47 : decode cX1_acting 47 = .ok (.if_icmp .ne 10, 3) := by decide +kernel
theorem dX1_acting_50 : decode cX1_acting 50 = .ok (.aload_n 0, 1) := by decide +kernel
theorem dX1_acting_51 : decode cX1_acting 51 = .ok (.iconst 1, 1) := by decide +kernel
theorem dX1_acting_52 : decode cX1_acting 52 = .ok (.putfield 34, 3) := by decide +kernel
theorem dX1_acting_55 : decode cX1_acting 55 = .ok (.iconst 2, 1) := by decide +kernel
theorem dX1_acting_56 : decode cX1_acting 56 = .ok (.ireturn, 1) := by decide +kernel
theorem dX1_acting_57 : decode cX1_acting 57 = .ok (.iload 4, 2) := by decide +kernel
theorem dX1_acting_59 : decode cX1_acting 59 = .ok (.iconst 4, 1) := by decide +kernel
theorem dX1_acting_60 : decode cX1_acting 60 = .ok (.if_icmp .ne 5, 3) := by decide +kernel
theorem dX1_acting_63 : decode cX1_acting 63 = .ok (.iconst 3, 1) := by decide +kernel
theorem dX1_acting_64 : decode cX1_acting 64 = .ok (.ireturn, 1) := by decide +kernel
theorem dX1_acting_65 : decode cX1_acting 65 = .ok (.iload 4, 2) := by decide +kernel
theorem dX1_acting_67 : decode cX1_acting 67 = .ok (.iconst 2, 1) := by decide +kernel
theorem dX1_acting_68 : decode cX1_acting 68 = .ok (.if_icmp .ne 61, 3) := by decide +kernel
theorem dX1_acting_71 : decode cX1_acting 71 = .ok (.aload_n 0, 1) := by decide +kernel
theorem dX1_acting_72 : decode cX1_acting 72 = .ok (.getfield 61, 3) := by decide +kernel
theorem dX1_acting_75 : decode cX1_acting 75 = .ok (.aload_n 0, 1) := by decide +kernel
theorem dX1_acting_76 : decode cX1_acting 76 = .ok (.getfield 82, 3) := by decide +kernel
theorem dX1_acting_79 : decode cX1_acting 79 = .ok (.aload_n 0, 1) := by decide +kernel
theorem dX1_acting_80 : decode cX1_acting 80 = .ok (.getfield 13, 3) := by decide +kernel
theorem dX1_acting_83 : decode cX1_acting 83 = .ok (.iaload, 1) := by decide +kernel
theorem dX1_acting_84 : decode cX1_acting 84 = .ok (.iconst 1, 1) := by decide +kernel
theorem dX1_acting_85 : decode cX1_acting 85 = .ok (.bastore, 1) := by decide +kernel
theorem dX1_acting_86 : decode cX1_acting 86 = .ok (.iload_n 1, 1) := by decide +kernel
theorem dX1_acting_87 : decode cX1_acting 87 = .ok (.iconst 5, 1) := by decide +kernel
theorem dX1_acting_88 : decode cX1_acting 88 = .ok (.if_icmp .ne 5, 3) := by decide +kernel
theorem dX1_acting_91 : decode cX1_acting 91 = .ok (.iconst 4, 1) := by decide +kernel
theorem dX1_acting_92 : decode cX1_acting 92 = .ok (.ireturn, 1) := by decide +kernel
theorem dX1_acting_93 : decode cX1_acting 93 = .ok (.aload_n 0, 1) := by decide +kernel
theorem dX1_acting_94 : decode cX1_acting 94 = .ok (.getfield 91, 3) := by decide +kernel
theorem dX1_acting_97 : decode cX1_acting 97 = .ok (.iload_n 1, 1) := by decide +kernel
theorem dX1_acting_98 : decode cX1_acting 98 = .ok (.aload_n 0, 1) := by decide +kernel
theorem dX1_acting_99 : decode cX1_acting 99 = .ok (.getfield 76, 3) := by decide +kernel
theorem dX1_acting_102 : decode cX1_acting 102 = .ok (.aload_n 0, 1) := by decide +kernel
theorem dX1_acting_103 : decode cX1_acting 103 = .ok (.getfield 13, 3) := by decide +kernel
theorem dX1_acting_106 : decode cX1_acting 106 = .ok (.iaload, 1) := by decide +kernel
theorem dX1_acting_107 : decode cX1_acting 107 = .ok (.iastore, 1) := by decide +kernel
theorem dX1_acting_108 : decode cX1_acting 108 = .ok (.aload_n 0, 1) := by decide +kernel
theorem dX1_acting_109 : decode cX1_acting 109 = .ok (.getfield 94, 3) := by decide +kernel
theorem dX1_acting_112 : decode cX1_acting 112 = .ok (.iload_n 1, 1) := by decide +kernel
theorem dX1_acting_113 : decode cX1_acting 113 = .ok (.aload_n 0, 1) := by decide +kernel
theorem dX1_acting_114 : decode cX1_acting 114 = .ok (.getfield 79, 3) := by decide +kernel
theorem dX1_acting_117 : decode cX1_acting 117 = .ok (.aload_n 0, 1) := by decide +kernel
theorem dX1_acting_118 : decode cX1_acting 118 = .ok (.getfield 13, 3) := by decide +kernel
theorem dX1_acting_121 : decode cX1_acting 121 = .ok (.iaload, 1) := by decide +kernel
theorem dX1_acting_122 : decode cX1_acting 122 = .ok (.iastore, 1) := by decide +kernel
theorem dX1_acting_123 : decode cX1_acting 123 = .ok (.iinc 1 1, 3) := by decide +kernel
theorem dX1_acting_126 : decode cX1_acting 126 = .ok (.goto (-124), 3) := by decide +kernel
theorem dX1_acting_129 : decode cX1_acting 129 = .ok (.iload 4, 2) := by decide +kernel
theorem dX1_acting_131 : decode cX1_acting 131 = .ok (.iconst 3, 1) := by decide +kernel
theorem dX1_acting_132 : decode cX1_acting 132 = .ok (.if_icmp .ne 29, 3) := by decide +kernel
theorem dX1_acting_135 : decode cX1_acting 135 = .ok (.aload_n 0, 1) := by decide +kernel
theorem dX1_acting_136 : decode cX1_acting 136 = .ok (.aload_n 0, 1) := by decide +kernel
theorem dX1_acting_137 : decode cX1_acting 137 = .ok (.getfield 79, 3) := by decide +kernel
theorem dX1_acting_140 : decode cX1_acting 140 = .ok (.aload_n 0, 1) := by decide +kernel
theorem dX1_acting_141 : decode cX1_acting 141 = .ok (.getfield 13, 3) := by decide +kernel
theorem dX1_acting_144 : decode cX1_acting 144 = .ok (.iaload, 1) := by decide +kernel
theorem dX1_acting_145 : decode cX1_acting 145 = .ok (.putfield 31, 3) := by decide +kernel
theorem dX1_acting_148 : decode cX1_acting 148 = .ok (.aload_n 0, 1) := by decide +kernel
theorem dX1_acting_149 : decode cX1_acting 149 = .ok (.dup, 1) := by decide +kernel
theorem dX1_acting_150 : decode cX1_acting 150 = .ok (.getfield 22, 3) := by decide +kernel
theorem dX1_acting_153 : decode cX1_acting 153 = .ok (.iconst 1, 1) := by decide +kernel
theorem dX1_acting_154 : decode cX1_acting 154 = .ok (.iadd, 1) := by decide +kernel
theorem dX1_acting_155 : decode cX1_acting 155 = .ok (.putfield 22, 3) := by decide +kernel
theorem dX1_acting_158 : decode cX1_acting 158 = .ok (.goto 20, 3) := by decide +kernel
theorem dX1_acting_161 : decode cX1_acting 161 = .ok (.iload 4, 2) := by decide +kernel
theorem dX1_acting_163 : decode cX1_acting 163 = .ok (.ifCond .lt 9, 3) := by decide +kernel
theorem dX1_acting_166 : decode cX1_acting 166 = .ok (.aload_n 0, 1) := by decide +kernel
theorem dX1_acting_167 : decode cX1_acting 167 = .ok (.iload_n 2, 1) := by decide +kernel
theorem dX1_acting_168 : decode cX1_acting 168 = .ok (.iload_n 3, 1) := by decide +kernel
theorem dX1_acting_169 : decode cX1_acting 169 = .ok (.invokevirtual 152, 3) := by decide +kernel
theorem dX1_acting_172 : decode cX1_acting 172 = .ok (.aload_n 0, 1) := by decide +kernel
theorem dX1_acting_173 : decode cX1_acting 173 = .ok (.iload_n 2, 1) := by decide +kernel
theorem dX1_acting_174 : decode cX1_acting 174 = .ok (.iload_n 3, 1) := by decide +kernel
theorem dX1_acting_175 : decode cX1_acting 175 = .ok (.invokevirtual 155, 3) := by decide +kernel
theorem dX1_acting_178 : decode cX1_acting 178 = .ok (.iinc 1 (-1), 3) := by decide +kernel
theorem dX1_acting_181 : decode cX1_acting 181 = .ok (.goto (-179), 3) := by decide +kernel
theorem dX1_acting_184 : decode cX1_acting 184 = .ok (.iconst 0, 1) := by decide +kernel
theorem dX1_acting_185 : decode cX1_acting 185 = .ok (.ireturn, 1) := by decide +kernel
theorem dX1_act_0 : decode cX1_act 0 = .ok (.aload_n 0, 1) := by decide +kernel
theorem dX1_act_1 : decode cX1_act 1 = .ok (.iload_n 1, 1) := by decide +kernel
theorem dX1_act_2 : decode cX1_act 2 = .ok (.iconst 0, 1) := by decide +kernel
theorem dX1_act_3 : decode cX1_act 3 = .ok (.bipush 7, 2) := by decide +kernel
theorem dX1_act_5 : decode cX1_act 5 = .ok (.invokevirtual 97, 3) := by decide +kernel
theorem dX1_act_8 : decode cX1_act 8 = .ok (.ifCond .eq 9, 3) := by decide +kernel
theorem dX1_act_11 : decode cX1_act 11 = .ok (.aload_n 0, 1) := by decide +kernel
theorem dX1_act_12 : decode cX1_act 12 = .ok (.iconst 1, 1) := by decide +kernel
theorem dX1_act_13 : decode cX1_act 13 = .ok (.invokevirtual 101, 3) := by decide +kernel
theorem dX1_act_16 : decode cX1_act 16 = .ok (.ireturn, 1) := by decide +kernel
theorem dX1_act_17 : decode cX1_act 17 = .ok (.aload_n 0, 1) := by decide +kernel
theorem dX1_act_18 : decode cX1_act 18 = .ok (.getfield 91, 3) := by decide +kernel
theorem dX1_act_21 : decode cX1_act 21 = .ok (.iconst 0, 1) := by decide +kernel
theorem dX1_act_22 : decode cX1_act 22 = .ok (.iload_n 1, 1) := by decide +kernel
theorem dX1_act_23 : decode cX1_act 23 = .ok (.iastore, 1) := by decide +kernel
theorem dX1_act_24 : decode cX1_act 24 = .ok (.aload_n 0, 1) := by decide +kernel
theorem dX1_act_25 : decode cX1_act 25 = .ok (.getfield 94, 3) := by decide +kernel
theorem dX1_act_28 : decode cX1_act 28 = .ok (.iconst 0, 1) := by decide +kernel
theorem dX1_act_29 : decode cX1_act 29 = .ok (.iload_n 2, 1) := by decide +kernel
theorem dX1_act_30 : decode cX1_act 30 = .ok (.iastore, 1) := by decide +kernel
theorem dX1_act_31 : decode cX1_act 31 = .ok (.aload_n 0, 1) := by decide +kernel
theorem dX1_act_32 : decode cX1_act 32 = .ok (.getfield 34, 3) := by decide +kernel
theorem dX1_act_35 : decode cX1_act 35 = .ok (.ifCond .eq 7, 3) := by decide +kernel
theorem dX1_act_38 : decode cX1_act 38 = .ok (.iconst 2, 1) := by decide +kernel
theorem dX1_act_39 : decode cX1_act 39 = .ok (.goto 7, 3) := by decide +kernel
theorem dX1_act_42 : decode cX1_act 42 = .ok (.aload_n 0, 1) := by decide +kernel
theorem dX1_act_43 : decode cX1_act 43 = .ok (.invokevirtual 158, 3) := by decide +kernel
theorem dX1_act_46 : decode cX1_act 46 = .ok (.istore_n 3, 1) := by decide +kernel
theorem dX1_act_47 : decode cX1_act 47 = .ok (.iconst 0, 1) := by decide +kernel
theorem dX1_act_48 : decode cX1_act 48 = .ok (.istore 4, 2) := by decide +kernel
theorem dX1_act_50 : decode cX1_act 50 = .ok (.iload 4, 2) := by decide +kernel
theorem dX1_act_52 : decode cX1_act 52 = .ok (.bipush 40, 2) := by decide +kernel
theorem dX1_act_54 : decode cX1_act 54 = .ok (.if_icmp .ge 17, 3) := by decide +kernel
theorem dX1_act_57 : decode cX1_act 57 = .ok (.aload_n 0, 1) := by decide +kernel
theorem dX1_act_58 : decode cX1_act 58 = .ok (.getfield 61, 3) := by decide +kernel
theorem dX1_act_61 : decode cX1_act 61 = .ok (.iload 4, 2) := by decide +kernel
theorem dX1_act_63 : decode cX1_act 63 = .ok (.iconst 0, 1) := by decide +kernel
theorem dX1_act_64 : decode cX1_act 64 = .ok (.bastore, 1) := by decide +kernel
theorem dX1_act_65 : decode cX1_act 65 = .ok (.iinc 4 1, 3) := by decide +kernel
theorem dX1_act_68 : decode cX1_act 68 = .ok (.goto (-18), 3) := by decide +kernel
theorem dX1_act_71 : decode cX1_act 71 = .ok (.iload_n 3, 1) := by decide +kernel
theorem dX1_act_72 : decode cX1_act 72 = .ok (.ifCond .ne 12, 3) := by decide +kernel
theorem dX1_act_75 : decode cX1_act 75 = .ok (.aload_n 0, 1) := by decide +kernel
theorem dX1_act_76 : decode cX1_act 76 = .ok (.aload_n 0, 1) := by decide +kernel
theorem dX1_act_77 : decode cX1_act 77 = .ok (.getfield 31, 3) := by decide +kernel
theorem dX1_act_80 : decode cX1_act 80 = .ok (.invokevirtual 105, 3) := by decide +kernel
theorem dX1_act_83 : decode cX1_act 83 = .ok (.ireturn, 1) := by decide +kernel
theorem dX1_act_84 : decode cX1_act 84 = .ok (.aload_n 0, 1) := by decide +kernel
theorem dX1_act_85 : decode cX1_act 85 = .ok (.dup, 1) := by decide +kernel
theorem dX1_act_86 : decode cX1_act 86 = .ok (.getfield 25, 3) := by decide +kernel
theorem dX1_act_89 : decode cX1_act 89 = .ok (.iconst 1, 1) := by decide +kernel
theorem dX1_act_90 : decode cX1_act 90 = .ok (.iadd, 1) := by decide +kernel
theorem dX1_act_91 : decode cX1_act 91 = .ok (.putfield 25, 3) := by decide +kernel
theorem dX1_act_94 : decode cX1_act 94 = .ok (.aload_n 0, 1) := by decide +kernel
theorem dX1_act_95 : decode cX1_act 95 = .ok (.iload_n 3, 1) := by decide +kernel
theorem dX1_act_96 : decode cX1_act 96 = .ok (.invokevirtual 101, 3) := by decide +kernel
theorem dX1_act_99 : decode cX1_act 99 = .ok (.ireturn, 1) := by decide +kernel
theorem dX1_ask_0 : decode cX1_ask 0 = .ok (.aload_n 0, 1) := by decide +kernel
theorem dX1_ask_1 : decode cX1_ask 1 = .ok (.iload_n 1, 1) := by decide +kernel
theorem dX1_ask_2 : decode cX1_ask 2 = .ok (.iconst 0, 1) := by decide +kernel
theorem dX1_ask_3 : decode cX1_ask 3 = .ok (.bipush 7, 2) := by decide +kernel
theorem dX1_ask_5 : decode cX1_ask 5 = .ok (.invokevirtual 97, 3) := by decide +kernel
theorem dX1_ask_8 : decode cX1_ask 8 = .ok (.ifCond .eq 9, 3) := by decide +kernel
theorem dX1_ask_11 : decode cX1_ask 11 = .ok (.aload_n 0, 1) := by decide +kernel
theorem dX1_ask_12 : decode cX1_ask 12 = .ok (.iconst 1, 1) := by decide +kernel
theorem dX1_ask_13 : decode cX1_ask 13 = .ok (.invokevirtual 101, 3) := by decide +kernel
theorem dX1_ask_16 : decode cX1_ask 16 = .ok (.ireturn, 1) := by decide +kernel
theorem dX1_ask_17 : decode cX1_ask 17 = .ok (.aload_n 0, 1) := by decide +kernel
theorem dX1_ask_18 : decode cX1_ask 18 = .ok (.aload_n 0, 1) := by decide +kernel
theorem dX1_ask_19 : decode cX1_ask 19 = .ok (.getfield 13, 3) := by decide +kernel
theorem dX1_ask_22 : decode cX1_ask 22 = .ok (.ifCond .ge 7, 3) := by decide +kernel
theorem dX1_ask_25 : decode cX1_ask 25 = .ok (.iconst 0, 1) := by decide +kernel
theorem dX1_ask_26 : decode cX1_ask 26 = .ok (.goto 10, 3) := by decide +kernel
theorem dX1_ask_29 : decode cX1_ask 29 = .ok (.aload_n 0, 1) := by decide +kernel
theorem dX1_ask_30 : decode cX1_ask 30 = .ok (.iload_n 1, 1) := by decide +kernel
theorem dX1_ask_31 : decode cX1_ask 31 = .ok (.iload_n 2, 1) := by decide +kernel
theorem dX1_ask_32 : decode cX1_ask 32 = .ok (.iconst 0, 1) := by decide +kernel
theorem dX1_ask_33 : decode cX1_ask 33 = .ok (.invokevirtual 148, 3) := by decide +kernel
theorem dX1_ask_36 : decode cX1_ask 36 = .ok (.invokevirtual 105, 3) := by decide +kernel
theorem dX1_ask_39 : decode cX1_ask 39 = .ok (.ireturn, 1) := by decide +kernel
theorem dX1_detail_0 : decode cX1_detail 0 = .ok (.aload_n 0, 1) := by decide +kernel
theorem dX1_detail_1 : decode cX1_detail 1 = .ok (.iload_n 1, 1) := by decide +kernel
theorem dX1_detail_2 : decode cX1_detail 2 = .ok (.iconst 0, 1) := by decide +kernel
theorem dX1_detail_3 : decode cX1_detail 3 = .ok (.bipush 7, 2) := by decide +kernel
theorem dX1_detail_5 : decode cX1_detail 5 = .ok (.invokevirtual 97, 3) := by decide +kernel
theorem dX1_detail_8 : decode cX1_detail 8 = .ok (.ifCond .ne 13, 3) := by decide +kernel
theorem dX1_detail_11 : decode cX1_detail 11 = .ok (.aload_n 0, 1) := by decide +kernel
theorem dX1_detail_12 : decode cX1_detail 12 = .ok (.iload_n 3, 1) := by decide +kernel
theorem dX1_detail_13 : decode cX1_detail 13 = .ok (.iconst 0, 1) := by decide +kernel
theorem dX1_detail_14 : decode cX1_detail 14 = .ok (.iconst 2, 1) := by decide +kernel
theorem dX1_detail_15 : decode cX1_detail 15 = .ok (.invokevirtual 97, 3) := by decide +kernel
theorem dX1_detail_18 : decode cX1_detail 18 = .ok (.ifCond .eq 9, 3) := by decide +kernel
theorem dX1_detail_21 : decode cX1_detail 21 = .ok (.aload_n 0, 1) := by decide +kernel
theorem dX1_detail_22 : decode cX1_detail 22 = .ok (.iconst 1, 1) := by decide +kernel
theorem dX1_detail_23 : decode cX1_detail 23 = .ok (.invokevirtual 101, 3) := by decide +kernel
theorem dX1_detail_26 : decode cX1_detail 26 = .ok (.ireturn, 1) := by decide +kernel
theorem dX1_detail_27 : decode cX1_detail 27 = .ok (.aload_n 0, 1) := by decide +kernel
theorem dX1_detail_28 : decode cX1_detail 28 = .ok (.getfield 13, 3) := by decide +kernel
theorem dX1_detail_31 : decode cX1_detail 31 = .ok (.ifCond .ge 7, 3) := by decide +kernel
theorem dX1_detail_34 : decode cX1_detail 34 = .ok (.iconst 0, 1) := by decide +kernel
theorem dX1_detail_35 : decode cX1_detail 35 = .ok (.goto 10, 3) := by decide +kernel
theorem dX1_detail_38 : decode cX1_detail 38 = .ok (.aload_n 0, 1) := by decide +kernel
theorem dX1_detail_39 : decode cX1_detail 39 = .ok (.iload_n 1, 1) := by decide +kernel
theorem dX1_detail_40 : decode cX1_detail 40 = .ok (.iload_n 2, 1) := by decide +kernel
theorem dX1_detail_41 : decode cX1_detail 41 = .ok (.iconst 0, 1) := by decide +kernel
theorem dX1_detail_42 : decode cX1_detail 42 = .ok (.invokevirtual 148, 3) := by decide +kernel
theorem dX1_detail_45 : decode cX1_detail 45 = .ok (.istore 4, 2) := by decide +kernel
theorem dX1_detail_47 : decode cX1_detail 47 = .ok (.iload 4, 2) := by decide +kernel
theorem dX1_detail_49 : decode cX1_detail 49 = .ok (.iload_n 3, 1) := by decide +kernel
theorem dX1_detail_50 : decode cX1_detail 50 = .ok (.iconst 2, 1) := by decide +kernel
theorem dX1_detail_51 : decode cX1_detail 51 = .ok (.if_icmp .ne 7, 3) := by decide +kernel
theorem dX1_detail_54 : decode cX1_detail 54 = .ok (.iconst 3, 1) := by decide +kernel
theorem dX1_detail_55 : decode cX1_detail 55 = .ok (.goto 4, 3) := by decide +kernel
theorem dX1_detail_58 : decode cX1_detail 58 = .ok (.iconst 2, 1) := by decide +kernel
theorem dX1_detail_59 : decode cX1_detail 59 = .ok (.if_icmp .eq 9, 3) := by decide +kernel
theorem dX1_detail_62 : decode cX1_detail 62 = .ok (.aload_n 0, 1) := by decide +kernel
theorem dX1_detail_63 : decode cX1_detail 63 = .ok (.iconst 2, 1) := by decide +kernel
theorem dX1_detail_64 : decode cX1_detail 64 = .ok (.invokevirtual 101, 3) := by decide +kernel
theorem dX1_detail_67 : decode cX1_detail 67 = .ok (.ireturn, 1) := by decide +kernel
theorem dX1_detail_68 : decode cX1_detail 68 = .ok (.aload_n 0, 1) := by decide +kernel
theorem dX1_detail_69 : decode cX1_detail 69 = .ok (.iload_n 3, 1) := by decide +kernel
theorem dX1_detail_70 : decode cX1_detail 70 = .ok (.ifCond .ne 15, 3) := by decide +kernel
theorem dX1_detail_73 : decode cX1_detail 73 = .ok (.aload_n 0, 1) := by decide +kernel
theorem dX1_detail_74 : decode cX1_detail 74 = .ok (.getfield 76, 3) := by decide +kernel
theorem dX1_detail_77 : decode cX1_detail 77 = .ok (.aload_n 0, 1) := by decide +kernel
theorem dX1_detail_78 : decode cX1_detail 78 = .ok (.getfield 13, 3) := by decide +kernel
theorem dX1_detail_81 : decode cX1_detail 81 = .ok (.iaload, 1) := by decide +kernel
theorem dX1_detail_82 : decode cX1_detail 82 = .ok (.goto 12, 3) := by decide +kernel
theorem dX1_detail_85 : decode cX1_detail 85 = .ok (.aload_n 0, 1) := by decide +kernel
theorem dX1_detail_86 : decode cX1_detail 86 = .ok (.getfield 79, 3) := by decide +kernel
theorem dX1_detail_89 : decode cX1_detail 89 = .ok (.aload_n 0, 1) := by decide +kernel
theorem dX1_detail_90 : decode cX1_detail 90 = .ok (.getfield 13, 3) := by decide +kernel
theorem dX1_detail_93 : decode cX1_detail 93 = .ok (.iaload, 1) := by decide +kernel
theorem dX1_detail_94 : decode cX1_detail 94 = .ok (.invokevirtual 105, 3) := by decide +kernel
theorem dX1_detail_97 : decode cX1_detail 97 = .ok (.ireturn, 1) := by decide +kernel
theorem dX1_total_0 : decode cX1_total 0 = .ok (.aload_n 0, 1) := by decide +kernel
theorem dX1_total_1 : decode cX1_total 1 = .ok (.iload_n 1, 1) := by decide +kernel
theorem dX1_total_2 : decode cX1_total 2 = .ok (.iconst 0, 1) := by decide +kernel
theorem dX1_total_3 : decode cX1_total 3 = .ok (.bipush 7, 2) := by decide +kernel
theorem dX1_total_5 : decode cX1_total 5 = .ok (.invokevirtual 97, 3) := by decide +kernel
theorem dX1_total_8 : decode cX1_total 8 = .ok (.ifCond .eq 11, 3) := by decide +kernel
theorem dX1_total_11 : decode cX1_total 11 = .ok (.aload_n 0, 1) := by decide +kernel
theorem dX1_total_12 : decode cX1_total 12 = .ok (.iconst 1, 1) := by decide +kernel
theorem dX1_total_13 : decode cX1_total 13 = .ok (.invokevirtual 101, 3) := by decide +kernel
theorem dX1_total_16 : decode cX1_total 16 = .ok (.goto 13, 3) := by decide +kernel
theorem dX1_total_19 : decode cX1_total 19 = .ok (.aload_n 0, 1) := by decide +kernel
theorem dX1_total_20 : decode cX1_total 20 = .ok (.aload_n 0, 1) := by decide +kernel
theorem dX1_total_21 : decode cX1_total 21 = .ok (.getfield 67, 3) := by decide +kernel
theorem dX1_total_24 : decode cX1_total 24 = .ok (.iload_n 1, 1) := by decide +kernel
theorem dX1_total_25 : decode cX1_total 25 = .ok (.iaload, 1) := by decide +kernel
theorem dX1_total_26 : decode cX1_total 26 = .ok (.invokevirtual 105, 3) := by decide +kernel
theorem dX1_total_29 : decode cX1_total 29 = .ok (.ireturn, 1) := by decide +kernel
theorem dX1_state_0 : decode cX1_state 0 = .ok (.aload_n 0, 1) := by decide +kernel
theorem dX1_state_1 : decode cX1_state 1 = .ok (.aload_n 0, 1) := by decide +kernel
theorem dX1_state_2 : decode cX1_state 2 = .ok (.iload_n 1, 1) := by decide +kernel
theorem dX1_state_3 : decode cX1_state 3 = .ok (.invokevirtual 112, 3) := by decide +kernel
theorem dX1_state_6 : decode cX1_state 6 = .ok (.ifCond .ne 24, 3) := by decide +kernel
theorem dX1_state_9 : decode cX1_state 9 = .ok (.aload_n 0, 1) := by decide +kernel
theorem dX1_state_10 : decode cX1_state 10 = .ok (.getfield 38, 3) := by decide +kernel
theorem dX1_state_13 : decode cX1_state 13 = .ok (.iload_n 1, 1) := by decide +kernel
theorem dX1_state_14 : decode cX1_state 14 = .ok (.iaload, 1) := by decide +kernel
theorem dX1_state_15 : decode cX1_state 15 = .ok (.iconst 3, 1) := by decide +kernel
theorem dX1_state_16 : decode cX1_state 16 = .ok (.if_icmp .eq 18, 3) := by decide +kernel
theorem dX1_state_19 : decode cX1_state 19 = .ok (.aload_n 0, 1) := by decide +kernel
theorem dX1_state_20 : decode cX1_state 20 = .ok (.getfield 38, 3) := by decide +kernel
theorem dX1_state_23 : decode cX1_state 23 = .ok (.iload_n 1, 1) := by decide +kernel
theorem dX1_state_24 : decode cX1_state 24 = .ok (.iaload, 1) := by decide +kernel
theorem dX1_state_25 : decode cX1_state 25 = .ok (.bipush 6, 2) := by decide +kernel
theorem dX1_state_27 : decode cX1_state 27 = .ok (.if_icmp .eq 7, 3) := by decide +kernel
theorem dX1_state_30 : decode cX1_state 30 = .ok (.iconst (-1), 1) := by decide +kernel
theorem dX1_state_31 : decode cX1_state 31 = .ok (.goto 9, 3) := by decide +kernel
theorem dX1_state_34 : decode cX1_state 34 = .ok (.aload_n 0, 1) := by decide +kernel
theorem dX1_state_35 : decode cX1_state 35 = .ok (.getfield 54, 3) := by decide +kernel
theorem dX1_state_38 : decode cX1_state 38 = .ok (.iload_n 1, 1) := by decide +kernel
theorem dX1_state_39 : decode cX1_state 39 = .ok (.iaload, 1) := by decide +kernel
theorem dX1_state_40 : decode cX1_state 40 = .ok (.invokevirtual 105, 3) := by decide +kernel
theorem dX1_state_43 : decode cX1_state 43 = .ok (.ireturn, 1) := by decide +kernel
theorem dX1_noted_0 : decode cX1_noted 0 = .ok (.aload_n 0, 1) := by decide +kernel
theorem dX1_noted_1 : decode cX1_noted 1 = .ok (.iload_n 1, 1) := by decide +kernel
theorem dX1_noted_2 : decode cX1_noted 2 = .ok (.ifCond .lt 17, 3) := by decide +kernel
theorem dX1_noted_5 : decode cX1_noted 5 = .ok (.iload_n 1, 1) := by decide +kernel
theorem dX1_noted_6 : decode cX1_noted 6 = .ok (.bipush 15, 2) := by decide +kernel
theorem dX1_noted_8 : decode cX1_noted 8 = .ok (.if_icmp .gt 11, 3) := by decide +kernel
theorem dX1_noted_11 : decode cX1_noted 11 = .ok (.iload_n 1, 1) := by decide +kernel
theorem dX1_noted_12 : decode cX1_noted 12 = .ok (.aload_n 0, 1) := by decide +kernel
theorem dX1_noted_13 : decode cX1_noted 13 = .ok (.getfield 16, 3) := by decide +kernel
theorem dX1_noted_16 : decode cX1_noted 16 = .ok (.if_icmp .lt 7, 3) := by decide +kernel
theorem dX1_noted_19 : decode cX1_noted 19 = .ok (.iconst (-1), 1) := by decide +kernel
theorem dX1_noted_20 : decode cX1_noted 20 = .ok (.goto 9, 3) := by decide +kernel
theorem dX1_noted_23 : decode cX1_noted 23 = .ok (.aload_n 0, 1) := by decide +kernel
theorem dX1_noted_24 : decode cX1_noted 24 = .ok (.getfield 70, 3) := by decide +kernel
theorem dX1_noted_27 : decode cX1_noted 27 = .ok (.iload_n 1, 1) := by decide +kernel
theorem dX1_noted_28 : decode cX1_noted 28 = .ok (.iaload, 1) := by decide +kernel
theorem dX1_noted_29 : decode cX1_noted 29 = .ok (.invokevirtual 105, 3) := by decide +kernel
theorem dX1_noted_32 : decode cX1_noted 32 = .ok (.ireturn, 1) := by decide +kernel
theorem dX1_count_0 : decode cX1_count 0 = .ok (.aload_n 0, 1) := by decide +kernel
theorem dX1_count_1 : decode cX1_count 1 = .ok (.iconst 0, 1) := by decide +kernel
theorem dX1_count_2 : decode cX1_count 2 = .ok (.putfield 28, 3) := by decide +kernel
theorem dX1_count_5 : decode cX1_count 5 = .ok (.iload_n 1, 1) := by decide +kernel
theorem dX1_count_6 : decode cX1_count 6 = .ok (.ifCond .ne 10, 3) := by decide +kernel
theorem dX1_count_9 : decode cX1_count 9 = .ok (.aload_n 0, 1) := by decide +kernel
theorem dX1_count_10 : decode cX1_count 10 = .ok (.getfield 7, 3) := by decide +kernel
theorem dX1_count_13 : decode cX1_count 13 = .ok (.goto 85, 3) := by decide +kernel
theorem dX1_count_16 : decode cX1_count 16 = .ok (.iload_n 1, 1) := by decide +kernel
theorem dX1_count_17 : decode cX1_count 17 = .ok (.iconst 1, 1) := by decide +kernel
theorem dX1_count_18 : decode cX1_count 18 = .ok (.if_icmp .ne 10, 3) := by decide +kernel
theorem dX1_count_21 : decode cX1_count 21 = .ok (.aload_n 0, 1) := by decide +kernel
theorem dX1_count_22 : decode cX1_count 22 = .ok (.getfield 16, 3) := by decide +kernel
theorem dX1_count_25 : decode cX1_count 25 = .ok (.goto 73, 3) := by decide +kernel
theorem dX1_count_28 : decode cX1_count 28 = .ok (.iload_n 1, 1) := by decide +kernel
theorem dX1_count_29 : decode cX1_count 29 = .ok (.iconst 2, 1) := by decide +kernel
theorem dX1_count_30 : decode cX1_count 30 = .ok (.if_icmp .ne 10, 3) := by decide +kernel
theorem dX1_count_33 : decode cX1_count 33 = .ok (.aload_n 0, 1) := by decide +kernel
theorem dX1_count_34 : decode cX1_count 34 = .ok (.getfield 19, 3) := by decide +kernel
theorem dX1_count_37 : decode cX1_count 37 = .ok (.goto 61, 3) := by decide +kernel
theorem dX1_count_40 : decode cX1_count 40 = .ok (.iload_n 1, 1) := by decide +kernel
theorem dX1_count_41 : decode cX1_count 41 = .ok (.iconst 3, 1) := by decide +kernel
theorem dX1_count_42 : decode cX1_count 42 = .ok (.if_icmp .ne 10, 3) := by decide +kernel
theorem dX1_count_45 : decode cX1_count 45 = .ok (.aload_n 0, 1) := by decide +kernel
theorem dX1_count_46 : decode cX1_count 46 = .ok (.getfield 22, 3) := by decide +kernel
theorem dX1_count_49 : decode cX1_count 49 = .ok (.goto 49, 3) := by decide +kernel
theorem dX1_count_52 : decode cX1_count 52 = .ok (.iload_n 1, 1) := by decide +kernel
theorem dX1_count_53 : decode cX1_count 53 = .ok (.iconst 4, 1) := by decide +kernel
theorem dX1_count_54 : decode cX1_count 54 = .ok (.if_icmp .ne 10, 3) := by decide +kernel
theorem dX1_count_57 : decode cX1_count 57 = .ok (.aload_n 0, 1) := by decide +kernel
theorem dX1_count_58 : decode cX1_count 58 = .ok (.getfield 25, 3) := by decide +kernel
theorem dX1_count_61 : decode cX1_count 61 = .ok (.goto 37, 3) := by decide +kernel
theorem dX1_count_64 : decode cX1_count 64 = .ok (.iload_n 1, 1) := by decide +kernel
theorem dX1_count_65 : decode cX1_count 65 = .ok (.iconst 5, 1) := by decide +kernel
theorem dX1_count_66 : decode cX1_count 66 = .ok (.if_icmp .ne 18, 3) := by decide +kernel
theorem dX1_count_69 : decode cX1_count 69 = .ok (.aload_n 0, 1) := by decide +kernel
theorem dX1_count_70 : decode cX1_count 70 = .ok (.getfield 34, 3) := by decide +kernel
theorem dX1_count_73 : decode cX1_count 73 = .ok (.ifCond .eq 7, 3) := by decide +kernel
theorem dX1_count_76 : decode cX1_count 76 = .ok (.iconst 1, 1) := by decide +kernel
theorem dX1_count_77 : decode cX1_count 77 = .ok (.goto 21, 3) := by decide +kernel
theorem dX1_count_80 : decode cX1_count 80 = .ok (.iconst 0, 1) := by decide +kernel
theorem dX1_count_81 : decode cX1_count 81 = .ok (.goto 17, 3) := by decide +kernel
theorem dX1_count_84 : decode cX1_count 84 = .ok (.iload_n 1, 1) := by decide +kernel
theorem dX1_count_85 : decode cX1_count 85 = .ok (.bipush 6, 2) := by decide +kernel
theorem dX1_count_87 : decode cX1_count 87 = .ok (.if_icmp .ne 10, 3) := by decide +kernel
theorem dX1_count_90 : decode cX1_count 90 = .ok (.aload_n 0, 1) := by decide +kernel
theorem dX1_count_91 : decode cX1_count 91 = .ok (.getfield 13, 3) := by decide +kernel
theorem dX1_count_94 : decode cX1_count 94 = .ok (.goto 4, 3) := by decide +kernel
theorem dX1_count_97 : decode cX1_count 97 = .ok (.iconst (-1), 1) := by decide +kernel
theorem dX1_count_98 : decode cX1_count 98 = .ok (.ireturn, 1) := by decide +kernel
