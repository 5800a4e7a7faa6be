theorem dX0_init_0 : decode cX0_init 0 = .ok (.aload_n 0, 1) := by decide +kernel
theorem dX0_init_1 : decode cX0_init 1 = .ok (.invokespecial 1, 3) := by decide +kernel
theorem dX0_init_4 : decode cX0_init 4 = .ok (.aload_n 0, 1) := by decide +kernel
theorem dX0_init_5 : decode cX0_init 5 = .ok (.bipush 40, 2) := by decide +kernel
theorem dX0_init_7 : decode cX0_init 7 = .ok (.newarray .int, 2) := by decide +kernel
theorem dX0_init_9 : decode cX0_init 9 = .ok (.putfield 9, 3) := by decide +kernel
theorem dX0_init_12 : decode cX0_init 12 = .ok (.aload_n 0, 1) := by decide +kernel
theorem dX0_init_13 : decode cX0_init 13 = .ok (.bipush 40, 2) := by decide +kernel
theorem dX0_init_15 : decode cX0_init 15 = .ok (.newarray .int, 2) := by decide +kernel
theorem dX0_init_17 : decode cX0_init 17 = .ok (.putfield 13, 3) := by decide +kernel
theorem dX0_init_20 : decode cX0_init 20 = .ok (.aload_n 0, 1) := by decide +kernel
theorem dX0_init_21 : decode cX0_init 21 = .ok (.bipush 40, 2) := by decide +kernel
theorem dX0_init_23 : decode cX0_init 23 = .ok (.newarray .int, 2) := by decide +kernel
theorem dX0_init_25 : decode cX0_init 25 = .ok (.putfield 16, 3) := by decide +kernel
theorem dX0_init_28 : decode cX0_init 28 = .ok (.aload_n 0, 1) := by decide +kernel
theorem dX0_init_29 : decode cX0_init 29 = .ok (.bipush 40, 2) := by decide +kernel
theorem dX0_init_31 : decode cX0_init 31 = .ok (.newarray .int, 2) := by decide +kernel
theorem dX0_init_33 : decode cX0_init 33 = .ok (.putfield 19, 3) := by decide +kernel
theorem dX0_init_36 : decode cX0_init 36 = .ok (.aload_n 0, 1) := by decide +kernel
theorem dX0_init_37 : decode cX0_init 37 = .ok (.bipush 40, 2) := by decide +kernel
theorem dX0_init_39 : decode cX0_init 39 = .ok (.newarray .int, 2) := by decide +kernel
theorem dX0_init_41 : decode cX0_init 41 = .ok (.putfield 22, 3) := by decide +kernel
theorem dX0_init_44 : decode cX0_init 44 = .ok (.aload_n 0, 1) := by decide +kernel
theorem dX0_init_45 : decode cX0_init 45 = .ok (.bipush 40, 2) := by decide +kernel
theorem dX0_init_47 : decode cX0_init 47 = .ok (.newarray .boolean, 2) := by decide +kernel
theorem dX0_init_49 : decode cX0_init 49 = .ok (.putfield 25, 3) := by decide +kernel
theorem dX0_init_52 : decode cX0_init 52 = .ok (.aload_n 0, 1) := by decide +kernel
theorem dX0_init_53 : decode cX0_init 53 = .ok (.bipush 40, 2) := by decide +kernel
theorem dX0_init_55 : decode cX0_init 55 = .ok (.newarray .int, 2) := by decide +kernel
theorem dX0_init_57 : decode cX0_init 57 = .ok (.putfield 29, 3) := by decide +kernel
theorem dX0_init_60 : decode cX0_init 60 = .ok (.aload_n 0, 1) := by decide +kernel
theorem dX0_init_61 : decode cX0_init 61 = .ok (.bipush 40, 2) := by decide +kernel
theorem dX0_init_63 : decode cX0_init 63 = .ok (.newarray .boolean, 2) := by decide +kernel
theorem dX0_init_65 : decode cX0_init 65 = .ok (.putfield 32, 3) := by decide +kernel
theorem dX0_init_68 : decode cX0_init 68 = .ok (.aload_n 0, 1) := by decide +kernel
theorem dX0_init_69 : decode cX0_init 69 = .ok (.bipush 96, 2) := by decide +kernel
theorem dX0_init_71 : decode cX0_init 71 = .ok (.newarray .int, 2) := by decide +kernel
theorem dX0_init_73 : decode cX0_init 73 = .ok (.putfield 35, 3) := by decide +kernel
theorem dX0_init_76 : decode cX0_init 76 = .ok (.iconst 0, 1) := by decide +kernel
theorem dX0_init_77 : decode cX0_init 77 = .ok (.istore_n 1, 1) := by decide +kernel
theorem dX0_init_78 : decode cX0_init 78 = .ok (.iload_n 1, 1) := by decide +kernel
theorem dX0_init_79 : decode cX0_init 79 = .ok (.aload_n 0, 1) := by decide +kernel
theorem dX0_init_80 : decode cX0_init 80 = .ok (.getfield 35, 3) := by decide +kernel
theorem dX0_init_83 : decode cX0_init 83 = .ok (.arraylength, 1) := by decide +kernel
theorem dX0_init_84 : decode cX0_init 84 = .ok (.if_icmp .ge 16, 3) := by decide +kernel
theorem dX0_init_87 : decode cX0_init 87 = .ok (.aload_n 0, 1) := by decide +kernel
theorem dX0_init_88 : decode cX0_init 88 = .ok (.getfield 35, 3) := by decide +kernel
theorem dX0_init_91 : decode cX0_init 91 = .ok (.iload_n 1, 1) := by decide +kernel
theorem dX0_init_92 : decode cX0_init 92 = .ok (.iconst 5, 1) := by decide +kernel
theorem dX0_init_93 : decode cX0_init 93 = .ok (.iastore, 1) := by decide +kernel
theorem dX0_init_94 : decode cX0_init 94 = .ok (.iinc 1 1, 3) := by decide +kernel
theorem dX0_init_97 : decode cX0_init 97 = .ok (.goto (-19), 3) := by decide +kernel
theorem dX0_init_100 : decode cX0_init 100 = .ok (.aload_n 0, 1) := by decide +kernel
theorem dX0_init_101 : decode cX0_init 101 = .ok (.bipush 8, 2) := by decide +kernel
theorem dX0_init_103 : decode cX0_init 103 = .ok (.newarray .int, 2) := by decide +kernel
theorem dX0_init_105 : decode cX0_init 105 = .ok (.putfield 38, 3) := by decide +kernel
theorem dX0_init_108 : decode cX0_init 108 = .ok (.aload_n 0, 1) := by decide +kernel
theorem dX0_init_109 : decode cX0_init 109 = .ok (.bipush 16, 2) := by decide +kernel
theorem dX0_init_111 : decode cX0_init 111 = .ok (.newarray .int, 2) := by decide +kernel
theorem dX0_init_113 : decode cX0_init 113 = .ok (.putfield 41, 3) := by decide +kernel
theorem dX0_init_116 : decode cX0_init 116 = .ok (.aload_n 0, 1) := by decide +kernel
theorem dX0_init_117 : decode cX0_init 117 = .ok (.iconst (-1), 1) := by decide +kernel
theorem dX0_init_118 : decode cX0_init 118 = .ok (.putfield 44, 3) := by decide +kernel
theorem dX0_init_121 : decode cX0_init 121 = .ok (.return_, 1) := by decide +kernel
theorem dX0_table_0 : decode cX0_table 0 = .ok (.iload_n 1, 1) := by decide +kernel
theorem dX0_table_1 : decode cX0_table 1 = .ok (.invokestatic 48, 3) := by decide +kernel
theorem dX0_table_4 : decode cX0_table 4 = .ok (.ifCond .eq 28, 3) := by decide +kernel
theorem dX0_table_7 : decode cX0_table 7 = .ok (.iload_n 2, 1) := by decide +kernel
theorem dX0_table_8 : decode cX0_table 8 = .ok (.iconst 4, 1) := by decide +kernel
theorem dX0_table_9 : decode cX0_table 9 = .ok (.invokestatic 52, 3) := by decide +kernel
theorem dX0_table_12 : decode cX0_table 12 = .ok (.ifCond .eq 20, 3) := by decide +kernel
theorem dX0_table_15 : decode cX0_table 15 = .ok (.iload_n 3, 1) := by decide +kernel
theorem dX0_table_16 : decode cX0_table 16 = .ok (.invokestatic 56, 3) := by decide +kernel
theorem dX0_table_19 : decode cX0_table 19 = .ok (.ifCond .eq 13, 3) := by decide +kernel
theorem dX0_table_22 : decode cX0_table 22 = .ok (.iload 4, 2) := by decide +kernel
theorem dX0_table_24 : decode cX0_table 24 = .ok (.bipush 6, 2) := by decide +kernel
theorem dX0_table_26 : decode cX0_table 26 = .ok (.invokestatic 52, 3) := by decide +kernel
theorem dX0_table_29 : decode cX0_table 29 = .ok (.ifCond .ne 13, 3) := by decide +kernel
theorem dX0_table_32 : decode cX0_table 32 = .ok (.new 59, 3) := by decide +kernel
theorem dX0_table_35 : decode cX0_table 35 = .ok (.dup, 1) := by decide +kernel
theorem dX0_table_36 : decode cX0_table 36 = .ok (.ldc 61, 2) := by decide +kernel
theorem dX0_table_38 : decode cX0_table 38 = .ok (.invokespecial 63, 3) := by decide +kernel
theorem dX0_table_41 : decode cX0_table 41 = .ok (.athrow, 1) := by decide +kernel
theorem dX0_table_42 : decode cX0_table 42 = .ok (.iload_n 1, 1) := by decide +kernel
theorem dX0_table_43 : decode cX0_table 43 = .ok (.iload_n 2, 1) := by decide +kernel
theorem dX0_table_44 : decode cX0_table 44 = .ok (.iload_n 3, 1) := by decide +kernel
theorem dX0_table_45 : decode cX0_table 45 = .ok (.invokestatic 66, 3) := by decide +kernel
theorem dX0_table_48 : decode cX0_table 48 = .ok (.istore 5, 2) := by decide +kernel
theorem dX0_table_50 : decode cX0_table 50 = .ok (.aload_n 0, 1) := by decide +kernel
theorem dX0_table_51 : decode cX0_table 51 = .ok (.getfield 35, 3) := by decide +kernel
theorem dX0_table_54 : decode cX0_table 54 = .ok (.iload 5, 2) := by decide +kernel
theorem dX0_table_56 : decode cX0_table 56 = .ok (.iaload, 1) := by decide +kernel
theorem dX0_table_57 : decode cX0_table 57 = .ok (.istore 6, 2) := by decide +kernel
theorem dX0_table_59 : decode cX0_table 59 = .ok (.aload_n 0, 1) := by decide +kernel
theorem dX0_table_60 : decode cX0_table 60 = .ok (.getfield 35, 3) := by decide +kernel
theorem dX0_table_63 : decode cX0_table 63 = .ok (.iload 5, 2) := by decide +kernel
theorem dX0_table_65 : decode cX0_table 65 = .ok (.iload 4, 2) := by decide +kernel
theorem dX0_table_67 : decode cX0_table 67 = .ok (.iastore, 1) := by decide +kernel
theorem dX0_table_68 : decode cX0_table 68 = .ok (.iload 6, 2) := by decide +kernel
theorem dX0_table_70 : decode cX0_table 70 = .ok (.ireturn, 1) := by decide +kernel
theorem dX0_policy_0 : decode cX0_policy 0 = .ok (.aload_n 0, 1) := by decide +kernel
theorem dX0_policy_1 : decode cX0_policy 1 = .ok (.iload_n 1, 1) := by decide +kernel
theorem dX0_policy_2 : decode cX0_policy 2 = .ok (.iload_n 2, 1) := by decide +kernel
theorem dX0_policy_3 : decode cX0_policy 3 = .ok (.iload_n 3, 1) := by decide +kernel
theorem dX0_policy_4 : decode cX0_policy 4 = .ok (.iload 4, 2) := by decide +kernel
theorem dX0_policy_6 : decode cX0_policy 6 = .ok (.invokevirtual 70, 3) := by decide +kernel
theorem dX0_policy_9 : decode cX0_policy 9 = .ok (.ifCond .ne 13, 3) := by decide +kernel
theorem dX0_policy_12 : decode cX0_policy 12 = .ok (.new 59, 3) := by decide +kernel
theorem dX0_policy_15 : decode cX0_policy 15 = .ok (.dup, 1) := by decide +kernel
theorem dX0_policy_16 : decode cX0_policy 16 = .ok (.ldc 74, 2) := by decide +kernel
theorem dX0_policy_18 : decode cX0_policy 18 = .ok (.invokespecial 63, 3) := by decide +kernel
theorem dX0_policy_21 : decode cX0_policy 21 = .ok (.athrow, 1) := by decide +kernel
theorem dX0_policy_22 : decode cX0_policy 22 = .ok (.aload_n 0, 1) := by decide +kernel
theorem dX0_policy_23 : decode cX0_policy 23 = .ok (.iload_n 1, 1) := by decide +kernel
theorem dX0_policy_24 : decode cX0_policy 24 = .ok (.iload_n 2, 1) := by decide +kernel
theorem dX0_policy_25 : decode cX0_policy 25 = .ok (.iload_n 3, 1) := by decide +kernel
theorem dX0_policy_26 : decode cX0_policy 26 = .ok (.invokevirtual 76, 3) := by decide +kernel
theorem dX0_policy_29 : decode cX0_policy 29 = .ok (.ifCond .eq 13, 3) := by decide +kernel
theorem dX0_policy_32 : decode cX0_policy 32 = .ok (.new 80, 3) := by decide +kernel
theorem dX0_policy_35 : decode cX0_policy 35 = .ok (.dup, 1) := by decide +kernel
theorem dX0_policy_36 : decode cX0_policy 36 = .ok (.ldc 82, 2) := by decide +kernel
theorem dX0_policy_38 : decode cX0_policy 38 = .ok (.invokespecial 84, 3) := by decide +kernel
theorem dX0_policy_41 : decode cX0_policy 41 = .ok (.athrow, 1) := by decide +kernel
theorem dX0_policy_42 : decode cX0_policy 42 = .ok (.aload_n 0, 1) := by decide +kernel
theorem dX0_policy_43 : decode cX0_policy 43 = .ok (.iload_n 1, 1) := by decide +kernel
theorem dX0_policy_44 : decode cX0_policy 44 = .ok (.iload_n 2, 1) := by decide +kernel
theorem dX0_policy_45 : decode cX0_policy 45 = .ok (.iload_n 3, 1) := by decide +kernel
theorem dX0_policy_46 : decode cX0_policy 46 = .ok (.invokevirtual 85, 3) := by decide +kernel
theorem dX0_policy_49 : decode cX0_policy 49 = .ok (.istore 5, 2) := by decide +kernel
theorem dX0_policy_51 : decode cX0_policy 51 = .ok (.iload 5, 2) := by decide +kernel
theorem dX0_policy_53 : decode cX0_policy 53 = .ok (.bipush 7, 2) := by decide +kernel
theorem dX0_policy_55 : decode cX0_policy 55 = .ok (.if_icmp .le 13, 3) := by decide +kernel
theorem dX0_policy_58 : decode cX0_policy 58 = .ok (.new 88, 3) := by decide +kernel
theorem dX0_policy_61 : decode cX0_policy 61 = .ok (.dup, 1) := by decide +kernel
theorem dX0_policy_62 : decode cX0_policy 62 = .ok (.ldc 90, 2) := by decide +kernel
theorem dX0_policy_64 : decode cX0_policy 64 = .ok (.invokespecial 92, 3) := by decide +kernel
theorem dX0_policy_67 : decode cX0_policy 67 = .ok (.athrow, 1) := by decide +kernel
theorem dX0_policy_68 : decode cX0_policy 68 = .ok (.aload_n 0, 1) := by decide +kernel
theorem dX0_policy_69 : decode cX0_policy 69 = .ok (.getfield 93, 3) := by decide +kernel
theorem dX0_policy_72 : decode cX0_policy 72 = .ok (.bipush 40, 2) := by decide +kernel
theorem dX0_policy_74 : decode cX0_policy 74 = .ok (.if_icmp .lt 13, 3) := by decide +kernel
theorem dX0_policy_77 : decode cX0_policy 77 = .ok (.new 96, 3) := by decide +kernel
theorem dX0_policy_80 : decode cX0_policy 80 = .ok (.dup, 1) := by decide +kernel
theorem dX0_policy_81 : decode cX0_policy 81 = .ok (.ldc 98, 2) := by decide +kernel
theorem dX0_policy_83 : decode cX0_policy 83 = .ok (.invokespecial 100, 3) := by decide +kernel
theorem dX0_policy_86 : decode cX0_policy 86 = .ok (.athrow, 1) := by decide +kernel
theorem dX0_policy_87 : decode cX0_policy 87 = .ok (.aload_n 0, 1) := by decide +kernel
theorem dX0_policy_88 : decode cX0_policy 88 = .ok (.iload_n 1, 1) := by decide +kernel
theorem dX0_policy_89 : decode cX0_policy 89 = .ok (.iload_n 2, 1) := by decide +kernel
theorem dX0_policy_90 : decode cX0_policy 90 = .ok (.iload_n 3, 1) := by decide +kernel
theorem dX0_policy_91 : decode cX0_policy 91 = .ok (.iload 4, 2) := by decide +kernel
theorem dX0_policy_93 : decode cX0_policy 93 = .ok (.iload 5, 2) := by decide +kernel
theorem dX0_policy_95 : decode cX0_policy 95 = .ok (.invokevirtual 101, 3) := by decide +kernel
theorem dX0_policy_98 : decode cX0_policy 98 = .ok (.ireturn, 1) := by decide +kernel
theorem dX0_install_0 : decode cX0_install 0 = .ok (.aload_n 0, 1) := by decide +kernel
theorem dX0_install_1 : decode cX0_install 1 = .ok (.iload_n 1, 1) := by decide +kernel
theorem dX0_install_2 : decode cX0_install 2 = .ok (.invokevirtual 105, 3) := by decide +kernel
theorem dX0_install_5 : decode cX0_install 5 = .ok (.ifCond .ne 13, 3) := by decide +kernel
theorem dX0_install_8 : decode cX0_install 8 = .ok (.new 59, 3) := by decide +kernel
theorem dX0_install_11 : decode cX0_install 11 = .ok (.dup, 1) := by decide +kernel
theorem dX0_install_12 : decode cX0_install 12 = .ok (.ldc 108, 2) := by decide +kernel
theorem dX0_install_14 : decode cX0_install 14 = .ok (.invokespecial 63, 3) := by decide +kernel
theorem dX0_install_17 : decode cX0_install 17 = .ok (.athrow, 1) := by decide +kernel
theorem dX0_install_18 : decode cX0_install 18 = .ok (.aload_n 0, 1) := by decide +kernel
theorem dX0_install_19 : decode cX0_install 19 = .ok (.iload_n 1, 1) := by decide +kernel
theorem dX0_install_20 : decode cX0_install 20 = .ok (.putfield 44, 3) := by decide +kernel
theorem dX0_install_23 : decode cX0_install 23 = .ok (.aload_n 0, 1) := by decide +kernel
theorem dX0_install_24 : decode cX0_install 24 = .ok (.iconst 0, 1) := by decide +kernel
theorem dX0_install_25 : decode cX0_install 25 = .ok (.putfield 110, 3) := by decide +kernel
theorem dX0_install_28 : decode cX0_install 28 = .ok (.iconst 0, 1) := by decide +kernel
theorem dX0_install_29 : decode cX0_install 29 = .ok (.istore_n 2, 1) := by decide +kernel
theorem dX0_install_30 : decode cX0_install 30 = .ok (.iload_n 2, 1) := by decide +kernel
theorem dX0_install_31 : decode cX0_install 31 = .ok (.bipush 40, 2) := by decide +kernel
theorem dX0_install_33 : decode cX0_install 33 = .ok (.if_icmp .ge 16, 3) := by decide +kernel
theorem dX0_install_36 : decode cX0_install 36 = .ok (.aload_n 0, 1) := by decide +kernel
theorem dX0_install_37 : decode cX0_install 37 = .ok (.getfield 29, 3) := by decide +kernel
theorem dX0_install_40 : decode cX0_install 40 = .ok (.iload_n 2, 1) := by decide +kernel
theorem dX0_install_41 : decode cX0_install 41 = .ok (.iconst 0, 1) := by decide +kernel
theorem dX0_install_42 : decode cX0_install 42 = .ok (.iastore, 1) := by decide +kernel
theorem dX0_install_43 : decode cX0_install 43 = .ok (.iinc 2 1, 3) := by decide +kernel
theorem dX0_install_46 : decode cX0_install 46 = .ok (.goto (-16), 3) := by decide +kernel
theorem dX0_install_49 : decode cX0_install 49 = .ok (.iconst 0, 1) := by decide +kernel
theorem dX0_install_50 : decode cX0_install 50 = .ok (.ireturn, 1) := by decide +kernel
theorem dX0_act_0 : decode cX0_act 0 = .ok (.iload_n 1, 1) := by decide +kernel
theorem dX0_act_1 : decode cX0_act 1 = .ok (.invokestatic 56, 3) := by decide +kernel
theorem dX0_act_4 : decode cX0_act 4 = .ok (.ifCond .ne 13, 3) := by decide +kernel
theorem dX0_act_7 : decode cX0_act 7 = .ok (.new 59, 3) := by decide +kernel
theorem dX0_act_10 : decode cX0_act 10 = .ok (.dup, 1) := by decide +kernel
theorem dX0_act_11 : decode cX0_act 11 = .ok (.ldc 114, 2) := by decide +kernel
theorem dX0_act_13 : decode cX0_act 13 = .ok (.invokespecial 63, 3) := by decide +kernel
theorem dX0_act_16 : decode cX0_act 16 = .ok (.athrow, 1) := by decide +kernel
theorem dX0_act_17 : decode cX0_act 17 = .ok (.aload_n 0, 1) := by decide +kernel
theorem dX0_act_18 : decode cX0_act 18 = .ok (.getfield 110, 3) := by decide +kernel
theorem dX0_act_21 : decode cX0_act 21 = .ok (.ifCond .eq 7, 3) := by decide +kernel
theorem dX0_act_24 : decode cX0_act 24 = .ok (.iconst 2, 1) := by decide +kernel
theorem dX0_act_25 : decode cX0_act 25 = .ok (.goto 10, 3) := by decide +kernel
theorem dX0_act_28 : decode cX0_act 28 = .ok (.aload_n 0, 1) := by decide +kernel
theorem dX0_act_29 : decode cX0_act 29 = .ok (.iload_n 1, 1) := by decide +kernel
theorem dX0_act_30 : decode cX0_act 30 = .ok (.iload_n 2, 1) := by decide +kernel
theorem dX0_act_31 : decode cX0_act 31 = .ok (.iconst 1, 1) := by decide +kernel
theorem dX0_act_32 : decode cX0_act 32 = .ok (.invokevirtual 116, 3) := by decide +kernel
theorem dX0_act_35 : decode cX0_act 35 = .ok (.istore_n 3, 1) := by decide +kernel
theorem dX0_act_36 : decode cX0_act 36 = .ok (.aload_n 0, 1) := by decide +kernel
theorem dX0_act_37 : decode cX0_act 37 = .ok (.invokevirtual 119, 3) := by decide +kernel
theorem dX0_act_40 : decode cX0_act 40 = .ok (.iload_n 3, 1) := by decide +kernel
theorem dX0_act_41 : decode cX0_act 41 = .ok (.ifCond .ne 8, 3) := by decide +kernel
theorem dX0_act_44 : decode cX0_act 44 = .ok (.aload_n 0, 1) := by decide +kernel
theorem dX0_act_45 : decode cX0_act 45 = .ok (.getfield 122, 3) := by decide +kernel
theorem dX0_act_48 : decode cX0_act 48 = .ok (.ireturn, 1) := by decide +kernel
theorem dX0_act_49 : decode cX0_act 49 = .ok (.aload_n 0, 1) := by decide +kernel
theorem dX0_act_50 : decode cX0_act 50 = .ok (.dup, 1) := by decide +kernel
theorem dX0_act_51 : decode cX0_act 51 = .ok (.getfield 125, 3) := by decide +kernel
theorem dX0_act_54 : decode cX0_act 54 = .ok (.iconst 1, 1) := by decide +kernel
theorem dX0_act_55 : decode cX0_act 55 = .ok (.iadd, 1) := by decide +kernel
theorem dX0_act_56 : decode cX0_act 56 = .ok (.putfield 125, 3) := by decide +kernel
theorem dX0_act_59 : decode cX0_act 59 = .ok (.iload_n 3, 1) := by decide +kernel
theorem dX0_act_60 : decode cX0_act 60 = .ok (.iconst 2, 1) := by decide +kernel
theorem dX0_act_61 : decode cX0_act 61 = .ok (.if_icmp .ne 18, 3) := by decide +kernel
theorem dX0_act_64 : decode cX0_act 64 = .ok (.aload_n 0, 1) := by decide +kernel
theorem dX0_act_65 : decode cX0_act 65 = .ok (.iconst 1, 1) := by decide +kernel
theorem dX0_act_66 : decode cX0_act 66 = .ok (.putfield 110, 3) := by decide +kernel
theorem dX0_act_69 : decode cX0_act 69 = .ok (.new 88, 3) := by decide +kernel
theorem dX0_act_72 : decode cX0_act 72 = .ok (.dup, 1) := by decide +kernel
theorem dX0_act_73 : decode cX0_act 73 = .ok (.ldc 128, 2) := by decide +kernel
theorem dX0_act_75 : decode cX0_act 75 = .ok (.invokespecial 92, 3) := by decide +kernel
theorem dX0_act_78 : decode cX0_act 78 = .ok (.athrow, 1) := by decide +kernel
theorem dX0_act_79 : decode cX0_act 79 = .ok (.iload_n 3, 1) := by decide +kernel
theorem dX0_act_80 : decode cX0_act 80 = .ok (.iconst 1, 1) := by decide +kernel
theorem dX0_act_81 : decode cX0_act 81 = .ok (.if_icmp .ne 13, 3) := by decide +kernel
theorem dX0_act_84 : decode cX0_act 84 = .ok (.new 80, 3) := by decide +kernel
theorem dX0_act_87 : decode cX0_act 87 = .ok (.dup, 1) := by decide +kernel
theorem dX0_act_88 : decode cX0_act 88 = .ok (.ldc 129, 2) := by decide +kernel
theorem dX0_act_90 : decode cX0_act 90 = .ok (.invokespecial 84, 3) := by decide +kernel
theorem dX0_act_93 : decode cX0_act 93 = .ok (.athrow, 1) := by decide +kernel
theorem dX0_act_94 : decode cX0_act 94 = .ok (.new 96, 3) := by decide +kernel
theorem dX0_act_97 : decode cX0_act 97 = .ok (.dup, 1) := by decide +kernel
theorem dX0_act_98 : decode cX0_act 98 = .ok (.ldc 131, 2) := by decide +kernel
theorem dX0_act_100 : decode cX0_act 100 = .ok (.invokespecial 100, 3) := by decide +kernel
theorem dX0_act_103 : decode cX0_act 103 = .ok (.athrow, 1) := by decide +kernel
theorem dX0_ask_0 : decode cX0_ask 0 = .ok (.iload_n 1, 1) := by decide +kernel
theorem dX0_ask_1 : decode cX0_ask 1 = .ok (.invokestatic 56, 3) := by decide +kernel
theorem dX0_ask_4 : decode cX0_ask 4 = .ok (.ifCond .ne 13, 3) := by decide +kernel
theorem dX0_ask_7 : decode cX0_ask 7 = .ok (.new 59, 3) := by decide +kernel
theorem dX0_ask_10 : decode cX0_ask 10 = .ok (.dup, 1) := by decide +kernel
theorem dX0_ask_11 : decode cX0_ask 11 = .ok (.ldc 114, 2) := by decide +kernel
theorem dX0_ask_13 : decode cX0_ask 13 = .ok (.invokespecial 63, 3) := by decide +kernel
theorem dX0_ask_16 : decode cX0_ask 16 = .ok (.athrow, 1) := by decide +kernel
theorem dX0_ask_17 : decode cX0_ask 17 = .ok (.aload_n 0, 1) := by decide +kernel
theorem dX0_ask_18 : decode cX0_ask 18 = .ok (.iload_n 1, 1) := by decide +kernel
theorem dX0_ask_19 : decode cX0_ask 19 = .ok (.iload_n 2, 1) := by decide +kernel
theorem dX0_ask_20 : decode cX0_ask 20 = .ok (.invokevirtual 133, 3) := by decide +kernel
theorem dX0_ask_23 : decode cX0_ask 23 = .ok (.invokestatic 137, 3) := by decide +kernel
theorem dX0_ask_26 : decode cX0_ask 26 = .ok (.ireturn, 1) := by decide +kernel
theorem dX0_detail_0 : decode cX0_detail 0 = .ok (.iload_n 1, 1) := by decide +kernel
theorem dX0_detail_1 : decode cX0_detail 1 = .ok (.invokestatic 56, 3) := by decide +kernel
theorem dX0_detail_4 : decode cX0_detail 4 = .ok (.ifCond .eq 11, 3) := by decide +kernel
theorem dX0_detail_7 : decode cX0_detail 7 = .ok (.iload_n 3, 1) := by decide +kernel
theorem dX0_detail_8 : decode cX0_detail 8 = .ok (.iconst 3, 1) := by decide +kernel
theorem dX0_detail_9 : decode cX0_detail 9 = .ok (.invokestatic 52, 3) := by decide +kernel
theorem dX0_detail_12 : decode cX0_detail 12 = .ok (.ifCond .ne 13, 3) := by decide +kernel
theorem dX0_detail_15 : decode cX0_detail 15 = .ok (.new 59, 3) := by decide +kernel
theorem dX0_detail_18 : decode cX0_detail 18 = .ok (.dup, 1) := by decide +kernel
theorem dX0_detail_19 : decode cX0_detail 19 = .ok (.ldc 141, 2) := by decide +kernel
theorem dX0_detail_21 : decode cX0_detail 21 = .ok (.invokespecial 63, 3) := by decide +kernel
theorem dX0_detail_24 : decode cX0_detail 24 = .ok (.athrow, 1) := by decide +kernel
theorem dX0_detail_25 : decode cX0_detail 25 = .ok (.aload_n 0, 1) := by decide +kernel
theorem dX0_detail_26 : decode cX0_detail 26 = .ok (.iload_n 1, 1) := by decide +kernel
theorem dX0_detail_27 : decode cX0_detail 27 = .ok (.iload_n 2, 1) := by decide +kernel
theorem dX0_detail_28 : decode cX0_detail 28 = .ok (.invokevirtual 133, 3) := by decide +kernel
theorem dX0_detail_31 : decode cX0_detail 31 = .ok (.istore 4, 2) := by decide +kernel
theorem dX0_detail_33 : decode cX0_detail 33 = .ok (.iload_n 3, 1) := by decide +kernel
theorem dX0_detail_34 : decode cX0_detail 34 = .ok (.iconst 2, 1) := by decide +kernel
theorem dX0_detail_35 : decode cX0_detail 35 = .ok (.if_icmp .ne 7, 3) := by decide +kernel
theorem dX0_detail_38 : decode cX0_detail 38 = .ok (.iconst 3, 1) := by decide +kernel
theorem dX0_detail_39 : decode cX0_detail 39 = .ok (.goto 4, 3) := by decide +kernel
theorem dX0_detail_42 : decode cX0_detail 42 = .ok (.iconst 2, 1) := by decide +kernel
theorem dX0_detail_43 : decode cX0_detail 43 = .ok (.istore 5, 2) := by decide +kernel
theorem dX0_detail_45 : decode cX0_detail 45 = .ok (.iload 4, 2) := by decide +kernel
theorem dX0_detail_47 : decode cX0_detail 47 = .ok (.invokestatic 137, 3) := by decide +kernel
theorem dX0_detail_50 : decode cX0_detail 50 = .ok (.iload 5, 2) := by decide +kernel
theorem dX0_detail_52 : decode cX0_detail 52 = .ok (.if_icmp .eq 13, 3) := by decide +kernel
theorem dX0_detail_55 : decode cX0_detail 55 = .ok (.new 80, 3) := by decide +kernel
theorem dX0_detail_58 : decode cX0_detail 58 = .ok (.dup, 1) := by decide +kernel
theorem dX0_detail_59 : decode cX0_detail 59 = .ok (.ldc 143, 2) := by decide +kernel
theorem dX0_detail_61 : decode cX0_detail 61 = .ok (.invokespecial 84, 3) := by decide +kernel
theorem dX0_detail_64 : decode cX0_detail 64 = .ok (.athrow, 1) := by decide +kernel
theorem dX0_detail_65 : decode cX0_detail 65 = .ok (.iload 4, 2) := by decide +kernel
theorem dX0_detail_67 : decode cX0_detail 67 = .ok (.invokestatic 145, 3) := by decide +kernel
theorem dX0_detail_70 : decode cX0_detail 70 = .ok (.istore 6, 2) := by decide +kernel
theorem dX0_detail_72 : decode cX0_detail 72 = .ok (.iload_n 3, 1) := by decide +kernel
theorem dX0_detail_73 : decode cX0_detail 73 = .ok (.iconst 1, 1) := by decide +kernel
theorem dX0_detail_74 : decode cX0_detail 74 = .ok (.if_icmp .ne 13, 3) := by decide +kernel
theorem dX0_detail_77 : decode cX0_detail 77 = .ok (.aload_n 0, 1) := by decide +kernel
theorem dX0_detail_78 : decode cX0_detail 78 = .ok (.getfield 19, 3) := by decide +kernel
theorem dX0_detail_81 : decode cX0_detail 81 = .ok (.iload 6, 2) := by decide +kernel
theorem dX0_detail_83 : decode cX0_detail 83 = .ok (.iaload, 1) := by decide +kernel
theorem dX0_detail_84 : decode cX0_detail 84 = .ok (.goto 10, 3) := by decide +kernel
theorem dX0_detail_87 : decode cX0_detail 87 = .ok (.aload_n 0, 1) := by decide +kernel
theorem dX0_detail_88 : decode cX0_detail 88 = .ok (.getfield 16, 3) := by decide +kernel
theorem dX0_detail_91 : decode cX0_detail 91 = .ok (.iload 6, 2) := by decide +kernel
theorem dX0_detail_93 : decode cX0_detail 93 = .ok (.iaload, 1) := by decide +kernel
theorem dX0_detail_94 : decode cX0_detail 94 = .ok (.ireturn, 1) := by decide +kernel
theorem dX0_total_0 : decode cX0_total 0 = .ok (.iload_n 1, 1) := by decide +kernel
theorem dX0_total_1 : decode cX0_total 1 = .ok (.invokestatic 56, 3) := by decide +kernel
theorem dX0_total_4 : decode cX0_total 4 = .ok (.ifCond .ne 13, 3) := by decide +kernel
theorem dX0_total_7 : decode cX0_total 7 = .ok (.new 59, 3) := by decide +kernel
theorem dX0_total_10 : decode cX0_total 10 = .ok (.dup, 1) := by decide +kernel
theorem dX0_total_11 : decode cX0_total 11 = .ok (.ldc 114, 2) := by decide +kernel
theorem dX0_total_13 : decode cX0_total 13 = .ok (.invokespecial 63, 3) := by decide +kernel
theorem dX0_total_16 : decode cX0_total 16 = .ok (.athrow, 1) := by decide +kernel
theorem dX0_total_17 : decode cX0_total 17 = .ok (.aload_n 0, 1) := by decide +kernel
theorem dX0_total_18 : decode cX0_total 18 = .ok (.getfield 38, 3) := by decide +kernel
theorem dX0_total_21 : decode cX0_total 21 = .ok (.iload_n 1, 1) := by decide +kernel
theorem dX0_total_22 : decode cX0_total 22 = .ok (.iaload, 1) := by decide +kernel
theorem dX0_total_23 : decode cX0_total 23 = .ok (.ireturn, 1) := by decide +kernel
theorem dX0_state_0 : decode cX0_state 0 = .ok (.aload_n 0, 1) := by decide +kernel
theorem dX0_state_1 : decode cX0_state 1 = .ok (.iload_n 1, 1) := by decide +kernel
theorem dX0_state_2 : decode cX0_state 2 = .ok (.invokevirtual 105, 3) := by decide +kernel
theorem dX0_state_5 : decode cX0_state 5 = .ok (.ifCond .ne 5, 3) := by decide +kernel
theorem dX0_state_8 : decode cX0_state 8 = .ok (.iconst (-1), 1) := by decide +kernel
theorem dX0_state_9 : decode cX0_state 9 = .ok (.ireturn, 1) := by decide +kernel
theorem dX0_state_10 : decode cX0_state 10 = .ok (.aload_n 0, 1) := by decide +kernel
theorem dX0_state_11 : decode cX0_state 11 = .ok (.getfield 9, 3) := by decide +kernel
theorem dX0_state_14 : decode cX0_state 14 = .ok (.iload_n 1, 1) := by decide +kernel
theorem dX0_state_15 : decode cX0_state 15 = .ok (.iaload, 1) := by decide +kernel
theorem dX0_state_16 : decode cX0_state 16 = .ok (.iconst 3, 1) := by decide +kernel
theorem dX0_state_17 : decode cX0_state 17 = .ok (.if_icmp .eq 14, 3) := by decide +kernel
theorem dX0_state_20 : decode cX0_state 20 = .ok (.aload_n 0, 1) := by decide +kernel
theorem dX0_state_21 : decode cX0_state 21 = .ok (.getfield 9, 3) := by decide +kernel
theorem dX0_state_24 : decode cX0_state 24 = .ok (.iload_n 1, 1) := by decide +kernel
theorem dX0_state_25 : decode cX0_state 25 = .ok (.iaload, 1) := by decide +kernel
theorem dX0_state_26 : decode cX0_state 26 = .ok (.bipush 6, 2) := by decide +kernel
theorem dX0_state_28 : decode cX0_state 28 = .ok (.if_icmp .ne 7, 3) := by decide +kernel
theorem dX0_state_31 : decode cX0_state 31 = .ok (.iconst 1, 1) := by decide +kernel
theorem dX0_state_32 : decode cX0_state 32 = .ok (.goto 4, 3) := by decide +kernel
theorem dX0_state_35 : decode cX0_state 35 = .ok (.iconst 0, 1) := by decide +kernel
theorem dX0_state_36 : decode cX0_state 36 = .ok (.istore_n 2, 1) := by decide +kernel
theorem dX0_state_37 : decode cX0_state 37 = .ok (.iload_n 2, 1) := by decide +kernel
theorem dX0_state_38 : decode cX0_state 38 = .ok (.ifCond .eq 12, 3) := by decide +kernel
theorem dX0_state_41 : decode cX0_state 41 = .ok (.aload_n 0, 1) := by decide +kernel
theorem dX0_state_42 : decode cX0_state 42 = .ok (.getfield 29, 3) := by decide +kernel
theorem dX0_state_45 : decode cX0_state 45 = .ok (.iload_n 1, 1) := by decide +kernel
theorem dX0_state_46 : decode cX0_state 46 = .ok (.iaload, 1) := by decide +kernel
theorem dX0_state_47 : decode cX0_state 47 = .ok (.goto 4, 3) := by decide +kernel
theorem dX0_state_50 : decode cX0_state 50 = .ok (.iconst (-1), 1) := by decide +kernel
theorem dX0_state_51 : decode cX0_state 51 = .ok (.ireturn, 1) := by decide +kernel
theorem dX0_noted_0 : decode cX0_noted 0 = .ok (.iload_n 1, 1) := by decide +kernel
theorem dX0_noted_1 : decode cX0_noted 1 = .ok (.bipush 16, 2) := by decide +kernel
theorem dX0_noted_3 : decode cX0_noted 3 = .ok (.invokestatic 52, 3) := by decide +kernel
theorem dX0_noted_6 : decode cX0_noted 6 = .ok (.ifCond .eq 11, 3) := by decide +kernel
theorem dX0_noted_9 : decode cX0_noted 9 = .ok (.iload_n 1, 1) := by decide +kernel
theorem dX0_noted_10 : decode cX0_noted 10 = .ok (.aload_n 0, 1) := by decide +kernel
theorem dX0_noted_11 : decode cX0_noted 11 = .ok (.getfield 148, 3) := by decide +kernel
theorem dX0_noted_14 : decode cX0_noted 14 = .ok (.if_icmp .lt 5, 3) := by decide +kernel
theorem dX0_noted_17 : decode cX0_noted 17 = .ok (.iconst (-1), 1) := by decide +kernel
theorem dX0_noted_18 : decode cX0_noted 18 = .ok (.ireturn, 1) := by decide +kernel
theorem dX0_noted_19 : decode cX0_noted 19 = .ok (.aload_n 0, 1) := by decide +kernel
theorem dX0_noted_20 : decode cX0_noted 20 = .ok (.getfield 41, 3) := by decide +kernel
theorem dX0_noted_23 : decode cX0_noted 23 = .ok (.aload_n 0, 1) := by decide +kernel
theorem dX0_noted_24 : decode cX0_noted 24 = .ok (.getfield 148, 3) := by decide +kernel
theorem dX0_noted_27 : decode cX0_noted 27 = .ok (.iconst 1, 1) := by decide +kernel
theorem dX0_noted_28 : decode cX0_noted 28 = .ok (.isub, 1) := by decide +kernel
theorem dX0_noted_29 : decode cX0_noted 29 = .ok (.iload_n 1, 1) := by decide +kernel
theorem dX0_noted_30 : decode cX0_noted 30 = .ok (.isub, 1) := by decide +kernel
theorem dX0_noted_31 : decode cX0_noted 31 = .ok (.bipush 16, 2) := by decide +kernel
theorem dX0_noted_33 : decode cX0_noted 33 = .ok (.invokestatic 151, 3) := by decide +kernel
theorem dX0_noted_36 : decode cX0_noted 36 = .ok (.iaload, 1) := by decide +kernel
theorem dX0_noted_37 : decode cX0_noted 37 = .ok (.ireturn, 1) := by decide +kernel
theorem dX0_count_0 : decode cX0_count 0 = .ok (.iload_n 1, 1) := by decide +kernel
theorem dX0_count_1 : decode cX0_count 1 = .ok (.tableswitch 86 0 6 #[43, 48, 53, 58, 63, 68, 81], 43) := by decide +kernel
theorem dX0_count_44 : decode cX0_count 44 = .ok (.aload_n 0, 1) := by decide +kernel
theorem dX0_count_45 : decode cX0_count 45 = .ok (.getfield 93, 3) := by decide +kernel
theorem dX0_count_48 : decode cX0_count 48 = .ok (.ireturn, 1) := by decide +kernel
theorem dX0_count_49 : decode cX0_count 49 = .ok (.aload_n 0, 1) := by decide +kernel
theorem dX0_count_50 : decode cX0_count 50 = .ok (.getfield 148, 3) := by decide +kernel
theorem dX0_count_53 : decode cX0_count 53 = .ok (.ireturn, 1) := by decide +kernel
theorem dX0_count_54 : decode cX0_count 54 = .ok (.aload_n 0, 1) := by decide +kernel
theorem dX0_count_55 : decode cX0_count 55 = .ok (.getfield 156, 3) := by decide +kernel
theorem dX0_count_58 : decode cX0_count 58 = .ok (.ireturn, 1) := by decide +kernel
theorem dX0_count_59 : decode cX0_count 59 = .ok (.aload_n 0, 1) := by decide +kernel
theorem dX0_count_60 : decode cX0_count 60 = .ok (.getfield 159, 3) := by decide +kernel
theorem dX0_count_63 : decode cX0_count 63 = .ok (.ireturn, 1) := by decide +kernel
theorem dX0_count_64 : decode cX0_count 64 = .ok (.aload_n 0, 1) := by decide +kernel
theorem dX0_count_65 : decode cX0_count 65 = .ok (.getfield 125, 3) := by decide +kernel
theorem dX0_count_68 : decode cX0_count 68 = .ok (.ireturn, 1) := by decide +kernel
theorem dX0_count_69 : decode cX0_count 69 = .ok (.aload_n 0, 1) := by decide +kernel
theorem dX0_count_70 : decode cX0_count 70 = .ok (.getfield 110, 3) := by decide +kernel
theorem dX0_count_73 : decode cX0_count 73 = .ok (.ifCond .eq 7, 3) := by decide +kernel
theorem dX0_count_76 : decode cX0_count 76 = .ok (.iconst 1, 1) := by decide +kernel
theorem dX0_count_77 : decode cX0_count 77 = .ok (.goto 4, 3) := by decide +kernel
theorem dX0_count_80 : decode cX0_count 80 = .ok (.iconst 0, 1) := by decide +kernel
theorem dX0_count_81 : decode cX0_count 81 = .ok (.ireturn, 1) := by decide +kernel
theorem dX0_count_82 : decode cX0_count 82 = .ok (.aload_n 0, 1) := by decide +kernel
theorem dX0_count_83 : decode cX0_count 83 = .ok (.getfield 44, 3) := by decide +kernel
theorem dX0_count_86 : decode cX0_count 86 = .ok (.ireturn, 1) := by decide +kernel
theorem dX0_count_87 : decode cX0_count 87 = .ok (.iconst (-1), 1) := by decide +kernel
theorem dX0_count_88 : decode cX0_count 88 = .ok (.ireturn, 1) := by decide +kernel
theorem dX0_isBelow_0 : decode cX0_isBelow 0 = .ok (.iconst 0, 1) := by decide +kernel
theorem dX0_isBelow_1 : decode cX0_isBelow 1 = .ok (.iload_n 0, 1) := by decide +kernel
theorem dX0_isBelow_2 : decode cX0_isBelow 2 = .ok (.if_icmp .gt 12, 3) := by decide +kernel
theorem dX0_isBelow_5 : decode cX0_isBelow 5 = .ok (.iload_n 0, 1) := by decide +kernel
theorem dX0_isBelow_6 : decode cX0_isBelow 6 = .ok (.iload_n 1, 1) := by decide +kernel
theorem dX0_isBelow_7 : decode cX0_isBelow 7 = .ok (.if_icmp .ge 7, 3) := by decide +kernel
theorem dX0_isBelow_10 : decode cX0_isBelow 10 = .ok (.iconst 1, 1) := by decide +kernel
theorem dX0_isBelow_11 : decode cX0_isBelow 11 = .ok (.goto 4, 3) := by decide +kernel
theorem dX0_isBelow_14 : decode cX0_isBelow 14 = .ok (.iconst 0, 1) := by decide +kernel
theorem dX0_isBelow_15 : decode cX0_isBelow 15 = .ok (.ireturn, 1) := by decide +kernel
theorem dX0_isSort_0 : decode cX0_isSort 0 = .ok (.iload_n 0, 1) := by decide +kernel
theorem dX0_isSort_1 : decode cX0_isSort 1 = .ok (.bipush 8, 2) := by decide +kernel
theorem dX0_isSort_3 : decode cX0_isSort 3 = .ok (.invokestatic 52, 3) := by decide +kernel
theorem dX0_isSort_6 : decode cX0_isSort 6 = .ok (.ireturn, 1) := by decide +kernel
theorem dX0_isSet_0 : decode cX0_isSet 0 = .ok (.iload_n 0, 1) := by decide +kernel
theorem dX0_isSet_1 : decode cX0_isSet 1 = .ok (.sipush 256, 3) := by decide +kernel
theorem dX0_isSet_4 : decode cX0_isSet 4 = .ok (.invokestatic 52, 3) := by decide +kernel
theorem dX0_isSet_7 : decode cX0_isSet 7 = .ok (.ireturn, 1) := by decide +kernel
theorem dX0_isTable_0 : decode cX0_isTable 0 = .ok (.iload_n 0, 1) := by decide +kernel
theorem dX0_isTable_1 : decode cX0_isTable 1 = .ok (.iconst 3, 1) := by decide +kernel
theorem dX0_isTable_2 : decode cX0_isTable 2 = .ok (.invokestatic 52, 3) := by decide +kernel
theorem dX0_isTable_5 : decode cX0_isTable 5 = .ok (.ireturn, 1) := by decide +kernel
theorem dX0_isPolicy_0 : decode cX0_isPolicy 0 = .ok (.iload_n 1, 1) := by decide +kernel
theorem dX0_isPolicy_1 : decode cX0_isPolicy 1 = .ok (.aload_n 0, 1) := by decide +kernel
theorem dX0_isPolicy_2 : decode cX0_isPolicy 2 = .ok (.getfield 93, 3) := by decide +kernel
theorem dX0_isPolicy_5 : decode cX0_isPolicy 5 = .ok (.invokestatic 52, 3) := by decide +kernel
theorem dX0_isPolicy_8 : decode cX0_isPolicy 8 = .ok (.ireturn, 1) := by decide +kernel
theorem dX0_inSet_0 : decode cX0_inSet 0 = .ok (.iload_n 0, 1) := by decide +kernel
theorem dX0_inSet_1 : decode cX0_inSet 1 = .ok (.iload_n 1, 1) := by decide +kernel
theorem dX0_inSet_2 : decode cX0_inSet 2 = .ok (.ishr, 1) := by decide +kernel
theorem dX0_inSet_3 : decode cX0_inSet 3 = .ok (.iconst 1, 1) := by decide +kernel
theorem dX0_inSet_4 : decode cX0_inSet 4 = .ok (.iand, 1) := by decide +kernel
theorem dX0_inSet_5 : decode cX0_inSet 5 = .ok (.iconst 1, 1) := by decide +kernel
theorem dX0_inSet_6 : decode cX0_inSet 6 = .ok (.if_icmp .ne 7, 3) := by decide +kernel
theorem dX0_inSet_9 : decode cX0_inSet 9 = .ok (.iconst 1, 1) := by decide +kernel
theorem dX0_inSet_10 : decode cX0_inSet 10 = .ok (.goto 4, 3) := by decide +kernel
theorem dX0_inSet_13 : decode cX0_inSet 13 = .ok (.iconst 0, 1) := by decide +kernel
theorem dX0_inSet_14 : decode cX0_inSet 14 = .ok (.ireturn, 1) := by decide +kernel
theorem dX0_entryPlace_0 : decode cX0_entryPlace 0 = .ok (.iload_n 0, 1) := by decide +kernel
theorem dX0_entryPlace_1 : decode cX0_entryPlace 1 = .ok (.iconst 4, 1) := by decide +kernel
theorem dX0_entryPlace_2 : decode cX0_entryPlace 2 = .ok (.imul, 1) := by decide +kernel
theorem dX0_entryPlace_3 : decode cX0_entryPlace 3 = .ok (.iload_n 1, 1) := by decide +kernel
theorem dX0_entryPlace_4 : decode cX0_entryPlace 4 = .ok (.iadd, 1) := by decide +kernel
theorem dX0_entryPlace_5 : decode cX0_entryPlace 5 = .ok (.bipush 8, 2) := by decide +kernel
theorem dX0_entryPlace_7 : decode cX0_entryPlace 7 = .ok (.imul, 1) := by decide +kernel
theorem dX0_entryPlace_8 : decode cX0_entryPlace 8 = .ok (.iload_n 2, 1) := by decide +kernel
theorem dX0_entryPlace_9 : decode cX0_entryPlace 9 = .ok (.iadd, 1) := by decide +kernel
theorem dX0_entryPlace_10 : decode cX0_entryPlace 10 = .ok (.ireturn, 1) := by decide +kernel
theorem dX0_isPair_0 : decode cX0_isPair 0 = .ok (.iload_n 0, 1) := by decide +kernel
theorem dX0_isPair_1 : decode cX0_isPair 1 = .ok (.bipush 8, 2) := by decide +kernel
theorem dX0_isPair_3 : decode cX0_isPair 3 = .ok (.if_icmp .eq 21, 3) := by decide +kernel
theorem dX0_isPair_6 : decode cX0_isPair 6 = .ok (.iload_n 0, 1) := by decide +kernel
theorem dX0_isPair_7 : decode cX0_isPair 7 = .ok (.bipush 9, 2) := by decide +kernel
theorem dX0_isPair_9 : decode cX0_isPair 9 = .ok (.if_icmp .eq 15, 3) := by decide +kernel
theorem dX0_isPair_12 : decode cX0_isPair 12 = .ok (.iload_n 0, 1) := by decide +kernel
theorem dX0_isPair_13 : decode cX0_isPair 13 = .ok (.bipush 10, 2) := by decide +kernel
theorem dX0_isPair_15 : decode cX0_isPair 15 = .ok (.if_icmp .eq 9, 3) := by decide +kernel
theorem dX0_isPair_18 : decode cX0_isPair 18 = .ok (.iload_n 0, 1) := by decide +kernel
theorem dX0_isPair_19 : decode cX0_isPair 19 = .ok (.bipush 11, 2) := by decide +kernel
theorem dX0_isPair_21 : decode cX0_isPair 21 = .ok (.if_icmp .ne 7, 3) := by decide +kernel
theorem dX0_isPair_24 : decode cX0_isPair 24 = .ok (.iconst 1, 1) := by decide +kernel
theorem dX0_isPair_25 : decode cX0_isPair 25 = .ok (.goto 4, 3) := by decide +kernel
theorem dX0_isPair_28 : decode cX0_isPair 28 = .ok (.iconst 0, 1) := by decide +kernel
theorem dX0_isPair_29 : decode cX0_isPair 29 = .ok (.ireturn, 1) := by decide +kernel
theorem dX0_hasPolicyA_0 : decode cX0_hasPolicyA 0 = .ok (.iload_n 0, 1) := by decide +kernel
theorem dX0_hasPolicyA_1 : decode cX0_hasPolicyA 1 = .ok (.invokestatic 162, 3) := by decide +kernel
theorem dX0_hasPolicyA_4 : decode cX0_hasPolicyA 4 = .ok (.ifCond .ne 15, 3) := by decide +kernel
theorem dX0_hasPolicyA_7 : decode cX0_hasPolicyA 7 = .ok (.iload_n 0, 1) := by decide +kernel
theorem dX0_hasPolicyA_8 : decode cX0_hasPolicyA 8 = .ok (.bipush 13, 2) := by decide +kernel
theorem dX0_hasPolicyA_10 : decode cX0_hasPolicyA 10 = .ok (.if_icmp .eq 9, 3) := by decide +kernel
theorem dX0_hasPolicyA_13 : decode cX0_hasPolicyA 13 = .ok (.iload_n 0, 1) := by decide +kernel
theorem dX0_hasPolicyA_14 : decode cX0_hasPolicyA 14 = .ok (.bipush 14, 2) := by decide +kernel
theorem dX0_hasPolicyA_16 : decode cX0_hasPolicyA 16 = .ok (.if_icmp .ne 7, 3) := by decide +kernel
theorem dX0_hasPolicyA_19 : decode cX0_hasPolicyA 19 = .ok (.iconst 1, 1) := by decide +kernel
theorem dX0_hasPolicyA_20 : decode cX0_hasPolicyA 20 = .ok (.goto 4, 3) := by decide +kernel
theorem dX0_hasPolicyA_23 : decode cX0_hasPolicyA 23 = .ok (.iconst 0, 1) := by decide +kernel
theorem dX0_hasPolicyA_24 : decode cX0_hasPolicyA 24 = .ok (.ireturn, 1) := by decide +kernel
theorem dX0_hasPolicyB_0 : decode cX0_hasPolicyB 0 = .ok (.iload_n 0, 1) := by decide +kernel
theorem dX0_hasPolicyB_1 : decode cX0_hasPolicyB 1 = .ok (.invokestatic 162, 3) := by decide +kernel
theorem dX0_hasPolicyB_4 : decode cX0_hasPolicyB 4 = .ok (.ifCond .ne 9, 3) := by decide +kernel
theorem dX0_hasPolicyB_7 : decode cX0_hasPolicyB 7 = .ok (.iload_n 0, 1) := by decide +kernel
theorem dX0_hasPolicyB_8 : decode cX0_hasPolicyB 8 = .ok (.bipush 12, 2) := by decide +kernel
theorem dX0_hasPolicyB_10 : decode cX0_hasPolicyB 10 = .ok (.if_icmp .ne 7, 3) := by decide +kernel
theorem dX0_hasPolicyB_13 : decode cX0_hasPolicyB 13 = .ok (.iconst 1, 1) := by decide +kernel
theorem dX0_hasPolicyB_14 : decode cX0_hasPolicyB 14 = .ok (.goto 4, 3) := by decide +kernel
theorem dX0_hasPolicyB_17 : decode cX0_hasPolicyB 17 = .ok (.iconst 0, 1) := by decide +kernel
theorem dX0_hasPolicyB_18 : decode cX0_hasPolicyB 18 = .ok (.ireturn, 1) := by decide +kernel
theorem dX0_isAsSaid_0 : decode cX0_isAsSaid 0 = .ok (.iload_n 1, 1) := by decide +kernel
theorem dX0_isAsSaid_1 : decode cX0_isAsSaid 1 = .ok (.tableswitch 210 0 14 #[75, 75, 75, 80, 75, 102, 122, 75, 127, 127, 127, 127, 149, 170, 176], 75) := by decide +kernel
theorem dX0_isAsSaid_76 : decode cX0_isAsSaid 76 = .ok (.iload_n 2, 1) := by decide +kernel
theorem dX0_isAsSaid_77 : decode cX0_isAsSaid 77 = .ok (.invokestatic 165, 3) := by decide +kernel
theorem dX0_isAsSaid_80 : decode cX0_isAsSaid 80 = .ok (.ireturn, 1) := by decide +kernel
theorem dX0_isAsSaid_81 : decode cX0_isAsSaid 81 = .ok (.iload_n 2, 1) := by decide +kernel
theorem dX0_isAsSaid_82 : decode cX0_isAsSaid 82 = .ok (.invokestatic 165, 3) := by decide +kernel
theorem dX0_isAsSaid_85 : decode cX0_isAsSaid 85 = .ok (.ifCond .eq 16, 3) := by decide +kernel
theorem dX0_isAsSaid_88 : decode cX0_isAsSaid 88 = .ok (.iload_n 3, 1) := by decide +kernel
theorem dX0_isAsSaid_89 : decode cX0_isAsSaid 89 = .ok (.bipush 100, 2) := by decide +kernel
theorem dX0_isAsSaid_91 : decode cX0_isAsSaid 91 = .ok (.invokestatic 52, 3) := by decide +kernel
theorem dX0_isAsSaid_94 : decode cX0_isAsSaid 94 = .ok (.ifCond .eq 7, 3) := by decide +kernel
theorem dX0_isAsSaid_97 : decode cX0_isAsSaid 97 = .ok (.iconst 1, 1) := by decide +kernel
theorem dX0_isAsSaid_98 : decode cX0_isAsSaid 98 = .ok (.goto 4, 3) := by decide +kernel
theorem dX0_isAsSaid_101 : decode cX0_isAsSaid 101 = .ok (.iconst 0, 1) := by decide +kernel
theorem dX0_isAsSaid_102 : decode cX0_isAsSaid 102 = .ok (.ireturn, 1) := by decide +kernel
theorem dX0_isAsSaid_103 : decode cX0_isAsSaid 103 = .ok (.iload_n 2, 1) := by decide +kernel
theorem dX0_isAsSaid_104 : decode cX0_isAsSaid 104 = .ok (.invokestatic 165, 3) := by decide +kernel
theorem dX0_isAsSaid_107 : decode cX0_isAsSaid 107 = .ok (.ifCond .eq 14, 3) := by decide +kernel
theorem dX0_isAsSaid_110 : decode cX0_isAsSaid 110 = .ok (.iload_n 3, 1) := by decide +kernel
theorem dX0_isAsSaid_111 : decode cX0_isAsSaid 111 = .ok (.invokestatic 56, 3) := by decide +kernel
theorem dX0_isAsSaid_114 : decode cX0_isAsSaid 114 = .ok (.ifCond .eq 7, 3) := by decide +kernel
theorem dX0_isAsSaid_117 : decode cX0_isAsSaid 117 = .ok (.iconst 1, 1) := by decide +kernel
theorem dX0_isAsSaid_118 : decode cX0_isAsSaid 118 = .ok (.goto 4, 3) := by decide +kernel
theorem dX0_isAsSaid_121 : decode cX0_isAsSaid 121 = .ok (.iconst 0, 1) := by decide +kernel
theorem dX0_isAsSaid_122 : decode cX0_isAsSaid 122 = .ok (.ireturn, 1) := by decide +kernel
theorem dX0_isAsSaid_123 : decode cX0_isAsSaid 123 = .ok (.iload_n 2, 1) := by decide +kernel
theorem dX0_isAsSaid_124 : decode cX0_isAsSaid 124 = .ok (.invokestatic 48, 3) := by decide +kernel
theorem dX0_isAsSaid_127 : decode cX0_isAsSaid 127 = .ok (.ireturn, 1) := by decide +kernel
theorem dX0_isAsSaid_128 : decode cX0_isAsSaid 128 = .ok (.aload_n 0, 1) := by decide +kernel
theorem dX0_isAsSaid_129 : decode cX0_isAsSaid 129 = .ok (.iload_n 2, 1) := by decide +kernel
theorem dX0_isAsSaid_130 : decode cX0_isAsSaid 130 = .ok (.invokevirtual 105, 3) := by decide +kernel
theorem dX0_isAsSaid_133 : decode cX0_isAsSaid 133 = .ok (.ifCond .eq 15, 3) := by decide +kernel
theorem dX0_isAsSaid_136 : decode cX0_isAsSaid 136 = .ok (.aload_n 0, 1) := by decide +kernel
theorem dX0_isAsSaid_137 : decode cX0_isAsSaid 137 = .ok (.iload_n 3, 1) := by decide +kernel
theorem dX0_isAsSaid_138 : decode cX0_isAsSaid 138 = .ok (.invokevirtual 105, 3) := by decide +kernel
theorem dX0_isAsSaid_141 : decode cX0_isAsSaid 141 = .ok (.ifCond .eq 7, 3) := by decide +kernel
theorem dX0_isAsSaid_144 : decode cX0_isAsSaid 144 = .ok (.iconst 1, 1) := by decide +kernel
theorem dX0_isAsSaid_145 : decode cX0_isAsSaid 145 = .ok (.goto 4, 3) := by decide +kernel
theorem dX0_isAsSaid_148 : decode cX0_isAsSaid 148 = .ok (.iconst 0, 1) := by decide +kernel
theorem dX0_isAsSaid_149 : decode cX0_isAsSaid 149 = .ok (.ireturn, 1) := by decide +kernel
theorem dX0_isAsSaid_150 : decode cX0_isAsSaid 150 = .ok (.iload_n 2, 1) := by decide +kernel
theorem dX0_isAsSaid_151 : decode cX0_isAsSaid 151 = .ok (.invokestatic 165, 3) := by decide +kernel
theorem dX0_isAsSaid_154 : decode cX0_isAsSaid 154 = .ok (.ifCond .eq 15, 3) := by decide +kernel
theorem dX0_isAsSaid_157 : decode cX0_isAsSaid 157 = .ok (.aload_n 0, 1) := by decide +kernel
theorem dX0_isAsSaid_158 : decode cX0_isAsSaid 158 = .ok (.iload_n 3, 1) := by decide +kernel
theorem dX0_isAsSaid_159 : decode cX0_isAsSaid 159 = .ok (.invokevirtual 105, 3) := by decide +kernel
theorem dX0_isAsSaid_162 : decode cX0_isAsSaid 162 = .ok (.ifCond .eq 7, 3) := by decide +kernel
theorem dX0_isAsSaid_165 : decode cX0_isAsSaid 165 = .ok (.iconst 1, 1) := by decide +kernel
theorem dX0_isAsSaid_166 : decode cX0_isAsSaid 166 = .ok (.goto 4, 3) := by decide +kernel
theorem dX0_isAsSaid_169 : decode cX0_isAsSaid 169 = .ok (.iconst 0, 1) := by decide +kernel
theorem dX0_isAsSaid_170 : decode cX0_isAsSaid 170 = .ok (.ireturn, 1) := by decide +kernel
theorem dX0_isAsSaid_171 : decode cX0_isAsSaid 171 = .ok (.aload_n 0, 1) := by decide +kernel
theorem dX0_isAsSaid_172 : decode cX0_isAsSaid 172 = .ok (.iload_n 2, 1) := by decide +kernel
theorem dX0_isAsSaid_173 : decode cX0_isAsSaid 173 = .ok (.invokevirtual 105, 3) := by decide +kernel
theorem dX0_isAsSaid_176 : decode cX0_isAsSaid 176 = .ok (.ireturn, 1) := by decide +kernel
theorem dX0_isAsSaid_177 : decode cX0_isAsSaid 177 = .ok (.aload_n 0, 1) := by decide +kernel
theorem dX0_isAsSaid_178 : decode cX0_isAsSaid 178 = .ok (.iload_n 2, 1) := by decide +kernel
theorem dX0_isAsSaid_179 : decode cX0_isAsSaid 179 = .ok (.invokevirtual 105, 3) := by decide +kernel
theorem dX0_isAsSaid_182 : decode cX0_isAsSaid 182 = .ok (.ifCond .eq 27, 3) := by decide +kernel
theorem dX0_isAsSaid_185 : decode cX0_isAsSaid 185 = .ok (.iload_n 3, 1) := by decide +kernel
theorem dX0_isAsSaid_186 : decode cX0_isAsSaid 186 = .ok (.invokestatic 168, 3) := by decide +kernel
theorem dX0_isAsSaid_189 : decode cX0_isAsSaid 189 = .ok (.ifCond .eq 20, 3) := by decide +kernel
theorem dX0_isAsSaid_192 : decode cX0_isAsSaid 192 = .ok (.iload 4, 2) := by decide +kernel
theorem dX0_isAsSaid_194 : decode cX0_isAsSaid 194 = .ok (.ifCond .eq 11, 3) := by decide +kernel
theorem dX0_isAsSaid_197 : decode cX0_isAsSaid 197 = .ok (.iload 4, 2) := by decide +kernel
theorem dX0_isAsSaid_199 : decode cX0_isAsSaid 199 = .ok (.invokestatic 168, 3) := by decide +kernel
theorem dX0_isAsSaid_202 : decode cX0_isAsSaid 202 = .ok (.ifCond .eq 7, 3) := by decide +kernel
theorem dX0_isAsSaid_205 : decode cX0_isAsSaid 205 = .ok (.iconst 1, 1) := by decide +kernel
theorem dX0_isAsSaid_206 : decode cX0_isAsSaid 206 = .ok (.goto 4, 3) := by decide +kernel
theorem dX0_isAsSaid_209 : decode cX0_isAsSaid 209 = .ok (.iconst 0, 1) := by decide +kernel
theorem dX0_isAsSaid_210 : decode cX0_isAsSaid 210 = .ok (.ireturn, 1) := by decide +kernel
theorem dX0_isAsSaid_211 : decode cX0_isAsSaid 211 = .ok (.iconst 0, 1) := by decide +kernel
theorem dX0_isAsSaid_212 : decode cX0_isAsSaid 212 = .ok (.ireturn, 1) := by decide +kernel
theorem dX0_canBeTurned_0 : decode cX0_canBeTurned 0 = .ok (.iload_n 0, 1) := by decide +kernel
theorem dX0_canBeTurned_1 : decode cX0_canBeTurned 1 = .ok (.iconst 1, 1) := by decide +kernel
theorem dX0_canBeTurned_2 : decode cX0_canBeTurned 2 = .ok (.if_icmp .eq 13, 3) := by decide +kernel
theorem dX0_canBeTurned_5 : decode cX0_canBeTurned 5 = .ok (.iload_n 0, 1) := by decide +kernel
theorem dX0_canBeTurned_6 : decode cX0_canBeTurned 6 = .ok (.iconst 4, 1) := by decide +kernel
theorem dX0_canBeTurned_7 : decode cX0_canBeTurned 7 = .ok (.if_icmp .eq 8, 3) := by decide +kernel
theorem dX0_canBeTurned_10 : decode cX0_canBeTurned 10 = .ok (.iload_n 0, 1) := by decide +kernel
theorem dX0_canBeTurned_11 : decode cX0_canBeTurned 11 = .ok (.iconst 5, 1) := by decide +kernel
theorem dX0_canBeTurned_12 : decode cX0_canBeTurned 12 = .ok (.if_icmp .ne 7, 3) := by decide +kernel
theorem dX0_canBeTurned_15 : decode cX0_canBeTurned 15 = .ok (.iconst 1, 1) := by decide +kernel
theorem dX0_canBeTurned_16 : decode cX0_canBeTurned 16 = .ok (.goto 4, 3) := by decide +kernel
theorem dX0_canBeTurned_19 : decode cX0_canBeTurned 19 = .ok (.iconst 0, 1) := by decide +kernel
theorem dX0_canBeTurned_20 : decode cX0_canBeTurned 20 = .ok (.ireturn, 1) := by decide +kernel
theorem dX0_isTaken_0 : decode cX0_isTaken 0 = .ok (.iload_n 1, 1) := by decide +kernel
theorem dX0_isTaken_1 : decode cX0_isTaken 1 = .ok (.invokestatic 171, 3) := by decide +kernel
theorem dX0_isTaken_4 : decode cX0_isTaken 4 = .ok (.ifCond .eq 12, 3) := by decide +kernel
theorem dX0_isTaken_7 : decode cX0_isTaken 7 = .ok (.aload_n 0, 1) := by decide +kernel
theorem dX0_isTaken_8 : decode cX0_isTaken 8 = .ok (.getfield 25, 3) := by decide +kernel
theorem dX0_isTaken_11 : decode cX0_isTaken 11 = .ok (.iload_n 2, 1) := by decide +kernel
theorem dX0_isTaken_12 : decode cX0_isTaken 12 = .ok (.baload, 1) := by decide +kernel
theorem dX0_isTaken_13 : decode cX0_isTaken 13 = .ok (.ifCond .ne 31, 3) := by decide +kernel
theorem dX0_isTaken_16 : decode cX0_isTaken 16 = .ok (.iload_n 1, 1) := by decide +kernel
theorem dX0_isTaken_17 : decode cX0_isTaken 17 = .ok (.invokestatic 174, 3) := by decide +kernel
theorem dX0_isTaken_20 : decode cX0_isTaken 20 = .ok (.ifCond .eq 12, 3) := by decide +kernel
theorem dX0_isTaken_23 : decode cX0_isTaken 23 = .ok (.aload_n 0, 1) := by decide +kernel
theorem dX0_isTaken_24 : decode cX0_isTaken 24 = .ok (.getfield 25, 3) := by decide +kernel
theorem dX0_isTaken_27 : decode cX0_isTaken 27 = .ok (.iload_n 3, 1) := by decide +kernel
theorem dX0_isTaken_28 : decode cX0_isTaken 28 = .ok (.baload, 1) := by decide +kernel
theorem dX0_isTaken_29 : decode cX0_isTaken 29 = .ok (.ifCond .ne 15, 3) := by decide +kernel
theorem dX0_isTaken_32 : decode cX0_isTaken 32 = .ok (.iload_n 1, 1) := by decide +kernel
theorem dX0_isTaken_33 : decode cX0_isTaken 33 = .ok (.invokestatic 162, 3) := by decide +kernel
theorem dX0_isTaken_36 : decode cX0_isTaken 36 = .ok (.ifCond .eq 12, 3) := by decide +kernel
theorem dX0_isTaken_39 : decode cX0_isTaken 39 = .ok (.iload_n 2, 1) := by decide +kernel
theorem dX0_isTaken_40 : decode cX0_isTaken 40 = .ok (.iload_n 3, 1) := by decide +kernel
theorem dX0_isTaken_41 : decode cX0_isTaken 41 = .ok (.if_icmp .ne 7, 3) := by decide +kernel
theorem dX0_isTaken_44 : decode cX0_isTaken 44 = .ok (.iconst 1, 1) := by decide +kernel
theorem dX0_isTaken_45 : decode cX0_isTaken 45 = .ok (.goto 4, 3) := by decide +kernel
theorem dX0_isTaken_48 : decode cX0_isTaken 48 = .ok (.iconst 0, 1) := by decide +kernel
theorem dX0_isTaken_49 : decode cX0_isTaken 49 = .ok (.ireturn, 1) := by decide +kernel
theorem dX0_levelAbove_0 : decode cX0_levelAbove 0 = .ok (.iload_n 1, 1) := by decide +kernel
theorem dX0_levelAbove_1 : decode cX0_levelAbove 1 = .ok (.invokestatic 171, 3) := by decide +kernel
theorem dX0_levelAbove_4 : decode cX0_levelAbove 4 = .ok (.ifCond .eq 12, 3) := by decide +kernel
theorem dX0_levelAbove_7 : decode cX0_levelAbove 7 = .ok (.aload_n 0, 1) := by decide +kernel
theorem dX0_levelAbove_8 : decode cX0_levelAbove 8 = .ok (.getfield 22, 3) := by decide +kernel
theorem dX0_levelAbove_11 : decode cX0_levelAbove 11 = .ok (.iload_n 2, 1) := by decide +kernel
theorem dX0_levelAbove_12 : decode cX0_levelAbove 12 = .ok (.iaload, 1) := by decide +kernel
theorem dX0_levelAbove_13 : decode cX0_levelAbove 13 = .ok (.goto 4, 3) := by decide +kernel
theorem dX0_levelAbove_16 : decode cX0_levelAbove 16 = .ok (.iconst 0, 1) := by decide +kernel
theorem dX0_levelAbove_17 : decode cX0_levelAbove 17 = .ok (.istore 4, 2) := by decide +kernel
theorem dX0_levelAbove_19 : decode cX0_levelAbove 19 = .ok (.iload_n 1, 1) := by decide +kernel
theorem dX0_levelAbove_20 : decode cX0_levelAbove 20 = .ok (.invokestatic 174, 3) := by decide +kernel
theorem dX0_levelAbove_23 : decode cX0_levelAbove 23 = .ok (.ifCond .eq 12, 3) := by decide +kernel
theorem dX0_levelAbove_26 : decode cX0_levelAbove 26 = .ok (.aload_n 0, 1) := by decide +kernel
theorem dX0_levelAbove_27 : decode cX0_levelAbove 27 = .ok (.getfield 22, 3) := by decide +kernel
theorem dX0_levelAbove_30 : decode cX0_levelAbove 30 = .ok (.iload_n 3, 1) := by decide +kernel
theorem dX0_levelAbove_31 : decode cX0_levelAbove 31 = .ok (.iaload, 1) := by decide +kernel
theorem dX0_levelAbove_32 : decode cX0_levelAbove 32 = .ok (.goto 4, 3) := by decide +kernel
theorem dX0_levelAbove_35 : decode cX0_levelAbove 35 = .ok (.iconst 0, 1) := by decide +kernel
theorem dX0_levelAbove_36 : decode cX0_levelAbove 36 = .ok (.istore 5, 2) := by decide +kernel
theorem dX0_levelAbove_38 : decode cX0_levelAbove 38 = .ok (.iload 4, 2) := by decide +kernel
theorem dX0_levelAbove_40 : decode cX0_levelAbove 40 = .ok (.iload 5, 2) := by decide +kernel
theorem dX0_levelAbove_42 : decode cX0_levelAbove 42 = .ok (.invokestatic 177, 3) := by decide +kernel
theorem dX0_levelAbove_45 : decode cX0_levelAbove 45 = .ok (.iconst 1, 1) := by decide +kernel
theorem dX0_levelAbove_46 : decode cX0_levelAbove 46 = .ok (.iadd, 1) := by decide +kernel
theorem dX0_levelAbove_47 : decode cX0_levelAbove 47 = .ok (.ireturn, 1) := by decide +kernel
theorem dX0_addPolicy_0 : decode cX0_addPolicy 0 = .ok (.aload_n 0, 1) := by decide +kernel
theorem dX0_addPolicy_1 : decode cX0_addPolicy 1 = .ok (.getfield 93, 3) := by decide +kernel
theorem dX0_addPolicy_4 : decode cX0_addPolicy 4 = .ok (.istore 6, 2) := by decide +kernel
theorem dX0_addPolicy_6 : decode cX0_addPolicy 6 = .ok (.aload_n 0, 1) := by decide +kernel
theorem dX0_addPolicy_7 : decode cX0_addPolicy 7 = .ok (.getfield 9, 3) := by decide +kernel
theorem dX0_addPolicy_10 : decode cX0_addPolicy 10 = .ok (.iload 6, 2) := by decide +kernel
theorem dX0_addPolicy_12 : decode cX0_addPolicy 12 = .ok (.iload_n 1, 1) := by decide +kernel
theorem dX0_addPolicy_13 : decode cX0_addPolicy 13 = .ok (.iastore, 1) := by decide +kernel
theorem dX0_addPolicy_14 : decode cX0_addPolicy 14 = .ok (.aload_n 0, 1) := by decide +kernel
theorem dX0_addPolicy_15 : decode cX0_addPolicy 15 = .ok (.getfield 13, 3) := by decide +kernel
theorem dX0_addPolicy_18 : decode cX0_addPolicy 18 = .ok (.iload 6, 2) := by decide +kernel
theorem dX0_addPolicy_20 : decode cX0_addPolicy 20 = .ok (.iload_n 2, 1) := by decide +kernel
theorem dX0_addPolicy_21 : decode cX0_addPolicy 21 = .ok (.iastore, 1) := by decide +kernel
theorem dX0_addPolicy_22 : decode cX0_addPolicy 22 = .ok (.aload_n 0, 1) := by decide +kernel
theorem dX0_addPolicy_23 : decode cX0_addPolicy 23 = .ok (.getfield 16, 3) := by decide +kernel
theorem dX0_addPolicy_26 : decode cX0_addPolicy 26 = .ok (.iload 6, 2) := by decide +kernel
theorem dX0_addPolicy_28 : decode cX0_addPolicy 28 = .ok (.iload_n 3, 1) := by decide +kernel
theorem dX0_addPolicy_29 : decode cX0_addPolicy 29 = .ok (.iastore, 1) := by decide +kernel
theorem dX0_addPolicy_30 : decode cX0_addPolicy 30 = .ok (.aload_n 0, 1) := by decide +kernel
theorem dX0_addPolicy_31 : decode cX0_addPolicy 31 = .ok (.getfield 19, 3) := by decide +kernel
theorem dX0_addPolicy_34 : decode cX0_addPolicy 34 = .ok (.iload 6, 2) := by decide +kernel
theorem dX0_addPolicy_36 : decode cX0_addPolicy 36 = .ok (.iload 4, 2) := by decide +kernel
theorem dX0_addPolicy_38 : decode cX0_addPolicy 38 = .ok (.iastore, 1) := by decide +kernel
theorem dX0_addPolicy_39 : decode cX0_addPolicy 39 = .ok (.aload_n 0, 1) := by decide +kernel
theorem dX0_addPolicy_40 : decode cX0_addPolicy 40 = .ok (.getfield 22, 3) := by decide +kernel
theorem dX0_addPolicy_43 : decode cX0_addPolicy 43 = .ok (.iload 6, 2) := by decide +kernel
theorem dX0_addPolicy_45 : decode cX0_addPolicy 45 = .ok (.iload 5, 2) := by decide +kernel
theorem dX0_addPolicy_47 : decode cX0_addPolicy 47 = .ok (.iastore, 1) := by decide +kernel
theorem dX0_addPolicy_48 : decode cX0_addPolicy 48 = .ok (.iload_n 1, 1) := by decide +kernel
theorem dX0_addPolicy_49 : decode cX0_addPolicy 49 = .ok (.invokestatic 171, 3) := by decide +kernel
theorem dX0_addPolicy_52 : decode cX0_addPolicy 52 = .ok (.ifCond .eq 10, 3) := by decide +kernel
theorem dX0_addPolicy_55 : decode cX0_addPolicy 55 = .ok (.aload_n 0, 1) := by decide +kernel
theorem dX0_addPolicy_56 : decode cX0_addPolicy 56 = .ok (.getfield 25, 3) := by decide +kernel
theorem dX0_addPolicy_59 : decode cX0_addPolicy 59 = .ok (.iload_n 2, 1) := by decide +kernel
theorem dX0_addPolicy_60 : decode cX0_addPolicy 60 = .ok (.iconst 1, 1) := by decide +kernel
theorem dX0_addPolicy_61 : decode cX0_addPolicy 61 = .ok (.bastore, 1) := by decide +kernel
theorem dX0_addPolicy_62 : decode cX0_addPolicy 62 = .ok (.iload_n 1, 1) := by decide +kernel
theorem dX0_addPolicy_63 : decode cX0_addPolicy 63 = .ok (.invokestatic 174, 3) := by decide +kernel
theorem dX0_addPolicy_66 : decode cX0_addPolicy 66 = .ok (.ifCond .eq 10, 3) := by decide +kernel
theorem dX0_addPolicy_69 : decode cX0_addPolicy 69 = .ok (.aload_n 0, 1) := by decide +kernel
theorem dX0_addPolicy_70 : decode cX0_addPolicy 70 = .ok (.getfield 25, 3) := by decide +kernel
theorem dX0_addPolicy_73 : decode cX0_addPolicy 73 = .ok (.iload_n 3, 1) := by decide +kernel
theorem dX0_addPolicy_74 : decode cX0_addPolicy 74 = .ok (.iconst 1, 1) := by decide +kernel
theorem dX0_addPolicy_75 : decode cX0_addPolicy 75 = .ok (.bastore, 1) := by decide +kernel
theorem dX0_addPolicy_76 : decode cX0_addPolicy 76 = .ok (.aload_n 0, 1) := by decide +kernel
theorem dX0_addPolicy_77 : decode cX0_addPolicy 77 = .ok (.dup, 1) := by decide +kernel
theorem dX0_addPolicy_78 : decode cX0_addPolicy 78 = .ok (.getfield 93, 3) := by decide +kernel
theorem dX0_addPolicy_81 : decode cX0_addPolicy 81 = .ok (.iconst 1, 1) := by decide +kernel
theorem dX0_addPolicy_82 : decode cX0_addPolicy 82 = .ok (.iadd, 1) := by decide +kernel
theorem dX0_addPolicy_83 : decode cX0_addPolicy 83 = .ok (.putfield 93, 3) := by decide +kernel
theorem dX0_addPolicy_86 : decode cX0_addPolicy 86 = .ok (.iload 6, 2) := by decide +kernel
theorem dX0_addPolicy_88 : decode cX0_addPolicy 88 = .ok (.ireturn, 1) := by decide +kernel
theorem dX0_suggestionFrom_0 : decode cX0_suggestionFrom 0 = .ok (.iload_n 1, 1) := by decide +kernel
theorem dX0_suggestionFrom_1 : decode cX0_suggestionFrom 1 = .ok (.bipush 8, 2) := by decide +kernel
theorem dX0_suggestionFrom_3 : decode cX0_suggestionFrom 3 = .ok (.imul, 1) := by decide +kernel
theorem dX0_suggestionFrom_4 : decode cX0_suggestionFrom 4 = .ok (.iload_n 0, 1) := by decide +kernel
theorem dX0_suggestionFrom_5 : decode cX0_suggestionFrom 5 = .ok (.iadd, 1) := by decide +kernel
theorem dX0_suggestionFrom_6 : decode cX0_suggestionFrom 6 = .ok (.ireturn, 1) := by decide +kernel
theorem dX0_kindOf_0 : decode cX0_kindOf 0 = .ok (.iload_n 0, 1) := by decide +kernel
theorem dX0_kindOf_1 : decode cX0_kindOf 1 = .ok (.bipush 8, 2) := by decide +kernel
theorem dX0_kindOf_3 : decode cX0_kindOf 3 = .ok (.irem, 1) := by decide +kernel
theorem dX0_kindOf_4 : decode cX0_kindOf 4 = .ok (.ireturn, 1) := by decide +kernel
theorem dX0_sourceOf_0 : decode cX0_sourceOf 0 = .ok (.iload_n 0, 1) := by decide +kernel
theorem dX0_sourceOf_1 : decode cX0_sourceOf 1 = .ok (.bipush 8, 2) := by decide +kernel
theorem dX0_sourceOf_3 : decode cX0_sourceOf 3 = .ok (.idiv, 1) := by decide +kernel
theorem dX0_sourceOf_4 : decode cX0_sourceOf 4 = .ok (.ireturn, 1) := by decide +kernel
theorem dX0_suggestNow_0 : decode cX0_suggestNow 0 = .ok (.aload_n 0, 1) := by decide +kernel
theorem dX0_suggestNow_1 : decode cX0_suggestNow 1 = .ok (.getfield 44, 3) := by decide +kernel
theorem dX0_suggestNow_4 : decode cX0_suggestNow 4 = .ok (.iconst (-1), 1) := by decide +kernel
theorem dX0_suggestNow_5 : decode cX0_suggestNow 5 = .ok (.if_icmp .ne 7, 3) := by decide +kernel
theorem dX0_suggestNow_8 : decode cX0_suggestNow 8 = .ok (.iconst 0, 1) := by decide +kernel
theorem dX0_suggestNow_9 : decode cX0_suggestNow 9 = .ok (.goto 14, 3) := by decide +kernel
theorem dX0_suggestNow_12 : decode cX0_suggestNow 12 = .ok (.aload_n 0, 1) := by decide +kernel
theorem dX0_suggestNow_13 : decode cX0_suggestNow 13 = .ok (.aload_n 0, 1) := by decide +kernel
theorem dX0_suggestNow_14 : decode cX0_suggestNow 14 = .ok (.getfield 44, 3) := by decide +kernel
theorem dX0_suggestNow_17 : decode cX0_suggestNow 17 = .ok (.iload_n 1, 1) := by decide +kernel
theorem dX0_suggestNow_18 : decode cX0_suggestNow 18 = .ok (.iload_n 2, 1) := by decide +kernel
theorem dX0_suggestNow_19 : decode cX0_suggestNow 19 = .ok (.iconst 0, 1) := by decide +kernel
theorem dX0_suggestNow_20 : decode cX0_suggestNow 20 = .ok (.invokevirtual 180, 3) := by decide +kernel
theorem dX0_suggestNow_23 : decode cX0_suggestNow 23 = .ok (.ireturn, 1) := by decide +kernel
theorem dX0_suggest_0 : decode cX0_suggest 0 = .ok (.aload_n 0, 1) := by decide +kernel
theorem dX0_suggest_1 : decode cX0_suggest 1 = .ok (.getfield 9, 3) := by decide +kernel
theorem dX0_suggest_4 : decode cX0_suggest 4 = .ok (.iload_n 1, 1) := by decide +kernel
theorem dX0_suggest_5 : decode cX0_suggest 5 = .ok (.iaload, 1) := by decide +kernel
theorem dX0_suggest_6 : decode cX0_suggest 6 = .ok (.tableswitch 190 6 14 #[180, 190, 50, 50, 50, 50, 60, 92, 138], 50) := by decide +kernel
theorem dX0_suggest_56 : decode cX0_suggest 56 = .ok (.aload_n 0, 1) := by decide +kernel
theorem dX0_suggest_57 : decode cX0_suggest 57 = .ok (.iload_n 1, 1) := by decide +kernel
theorem dX0_suggest_58 : decode cX0_suggest 58 = .ok (.iload_n 2, 1) := by decide +kernel
theorem dX0_suggest_59 : decode cX0_suggest 59 = .ok (.iload_n 3, 1) := by decide +kernel
theorem dX0_suggest_60 : decode cX0_suggest 60 = .ok (.iload 4, 2) := by decide +kernel
theorem dX0_suggest_62 : decode cX0_suggest 62 = .ok (.invokevirtual 184, 3) := by decide +kernel
theorem dX0_suggest_65 : decode cX0_suggest 65 = .ok (.ireturn, 1) := by decide +kernel
theorem dX0_suggest_66 : decode cX0_suggest 66 = .ok (.aload_n 0, 1) := by decide +kernel
theorem dX0_suggest_67 : decode cX0_suggest 67 = .ok (.getfield 13, 3) := by decide +kernel
theorem dX0_suggest_70 : decode cX0_suggest 70 = .ok (.iload_n 1, 1) := by decide +kernel
theorem dX0_suggest_71 : decode cX0_suggest 71 = .ok (.iaload, 1) := by decide +kernel
theorem dX0_suggest_72 : decode cX0_suggest 72 = .ok (.iload_n 2, 1) := by decide +kernel
theorem dX0_suggest_73 : decode cX0_suggest 73 = .ok (.invokestatic 187, 3) := by decide +kernel
theorem dX0_suggest_76 : decode cX0_suggest 76 = .ok (.ifCond .eq 20, 3) := by decide +kernel
theorem dX0_suggest_79 : decode cX0_suggest 79 = .ok (.aload_n 0, 1) := by decide +kernel
theorem dX0_suggest_80 : decode cX0_suggest 80 = .ok (.aload_n 0, 1) := by decide +kernel
theorem dX0_suggest_81 : decode cX0_suggest 81 = .ok (.getfield 16, 3) := by decide +kernel
theorem dX0_suggest_84 : decode cX0_suggest 84 = .ok (.iload_n 1, 1) := by decide +kernel
theorem dX0_suggest_85 : decode cX0_suggest 85 = .ok (.iaload, 1) := by decide +kernel
theorem dX0_suggest_86 : decode cX0_suggest 86 = .ok (.iload_n 2, 1) := by decide +kernel
theorem dX0_suggest_87 : decode cX0_suggest 87 = .ok (.iload_n 3, 1) := by decide +kernel
theorem dX0_suggest_88 : decode cX0_suggest 88 = .ok (.iload 4, 2) := by decide +kernel
theorem dX0_suggest_90 : decode cX0_suggest 90 = .ok (.invokevirtual 180, 3) := by decide +kernel
theorem dX0_suggest_93 : decode cX0_suggest 93 = .ok (.goto 4, 3) := by decide +kernel
theorem dX0_suggest_96 : decode cX0_suggest 96 = .ok (.iconst 0, 1) := by decide +kernel
theorem dX0_suggest_97 : decode cX0_suggest 97 = .ok (.ireturn, 1) := by decide +kernel
theorem dX0_suggest_98 : decode cX0_suggest 98 = .ok (.aload_n 0, 1) := by decide +kernel
theorem dX0_suggest_99 : decode cX0_suggest 99 = .ok (.aload_n 0, 1) := by decide +kernel
theorem dX0_suggest_100 : decode cX0_suggest 100 = .ok (.getfield 13, 3) := by decide +kernel
theorem dX0_suggest_103 : decode cX0_suggest 103 = .ok (.iload_n 1, 1) := by decide +kernel
theorem dX0_suggest_104 : decode cX0_suggest 104 = .ok (.iaload, 1) := by decide +kernel
theorem dX0_suggest_105 : decode cX0_suggest 105 = .ok (.iload_n 2, 1) := by decide +kernel
theorem dX0_suggest_106 : decode cX0_suggest 106 = .ok (.iload_n 3, 1) := by decide +kernel
theorem dX0_suggest_107 : decode cX0_suggest 107 = .ok (.iload 4, 2) := by decide +kernel
theorem dX0_suggest_109 : decode cX0_suggest 109 = .ok (.invokevirtual 180, 3) := by decide +kernel
theorem dX0_suggest_112 : decode cX0_suggest 112 = .ok (.istore 5, 2) := by decide +kernel
theorem dX0_suggest_114 : decode cX0_suggest 114 = .ok (.iload 4, 2) := by decide +kernel
theorem dX0_suggest_116 : decode cX0_suggest 116 = .ok (.ifCond .eq 25, 3) := by decide +kernel
theorem dX0_suggest_119 : decode cX0_suggest 119 = .ok (.iload 5, 2) := by decide +kernel
theorem dX0_suggest_121 : decode cX0_suggest 121 = .ok (.invokestatic 137, 3) := by decide +kernel
theorem dX0_suggest_124 : decode cX0_suggest 124 = .ok (.ifCond .eq 17, 3) := by decide +kernel
theorem dX0_suggest_127 : decode cX0_suggest 127 = .ok (.aload_n 0, 1) := by decide +kernel
theorem dX0_suggest_128 : decode cX0_suggest 128 = .ok (.bipush 16, 2) := by decide +kernel
theorem dX0_suggest_130 : decode cX0_suggest 130 = .ok (.iload 5, 2) := by decide +kernel
theorem dX0_suggest_132 : decode cX0_suggest 132 = .ok (.invokestatic 137, 3) := by decide +kernel
theorem dX0_suggest_135 : decode cX0_suggest 135 = .ok (.imul, 1) := by decide +kernel
theorem dX0_suggest_136 : decode cX0_suggest 136 = .ok (.iload_n 2, 1) := by decide +kernel
theorem dX0_suggest_137 : decode cX0_suggest 137 = .ok (.iadd, 1) := by decide +kernel
theorem dX0_suggest_138 : decode cX0_suggest 138 = .ok (.invokevirtual 190, 3) := by decide +kernel
theorem dX0_suggest_141 : decode cX0_suggest 141 = .ok (.iload 5, 2) := by decide +kernel
theorem dX0_suggest_143 : decode cX0_suggest 143 = .ok (.ireturn, 1) := by decide +kernel
theorem dX0_suggest_144 : decode cX0_suggest 144 = .ok (.aload_n 0, 1) := by decide +kernel
theorem dX0_suggest_145 : decode cX0_suggest 145 = .ok (.aload_n 0, 1) := by decide +kernel
theorem dX0_suggest_146 : decode cX0_suggest 146 = .ok (.getfield 13, 3) := by decide +kernel
theorem dX0_suggest_149 : decode cX0_suggest 149 = .ok (.iload_n 1, 1) := by decide +kernel
theorem dX0_suggest_150 : decode cX0_suggest 150 = .ok (.iaload, 1) := by decide +kernel
theorem dX0_suggest_151 : decode cX0_suggest 151 = .ok (.iload_n 2, 1) := by decide +kernel
theorem dX0_suggest_152 : decode cX0_suggest 152 = .ok (.iload_n 3, 1) := by decide +kernel
theorem dX0_suggest_153 : decode cX0_suggest 153 = .ok (.iload 4, 2) := by decide +kernel
theorem dX0_suggest_155 : decode cX0_suggest 155 = .ok (.invokevirtual 180, 3) := by decide +kernel
theorem dX0_suggest_158 : decode cX0_suggest 158 = .ok (.istore 6, 2) := by decide +kernel
theorem dX0_suggest_160 : decode cX0_suggest 160 = .ok (.iload 6, 2) := by decide +kernel
theorem dX0_suggest_162 : decode cX0_suggest 162 = .ok (.invokestatic 137, 3) := by decide +kernel
theorem dX0_suggest_165 : decode cX0_suggest 165 = .ok (.aload_n 0, 1) := by decide +kernel
theorem dX0_suggest_166 : decode cX0_suggest 166 = .ok (.getfield 16, 3) := by decide +kernel
theorem dX0_suggest_169 : decode cX0_suggest 169 = .ok (.iload_n 1, 1) := by decide +kernel
theorem dX0_suggest_170 : decode cX0_suggest 170 = .ok (.iaload, 1) := by decide +kernel
theorem dX0_suggest_171 : decode cX0_suggest 171 = .ok (.if_icmp .ne 12, 3) := by decide +kernel
theorem dX0_suggest_174 : decode cX0_suggest 174 = .ok (.aload_n 0, 1) := by decide +kernel
theorem dX0_suggest_175 : decode cX0_suggest 175 = .ok (.getfield 19, 3) := by decide +kernel
theorem dX0_suggest_178 : decode cX0_suggest 178 = .ok (.iload_n 1, 1) := by decide +kernel
theorem dX0_suggest_179 : decode cX0_suggest 179 = .ok (.iaload, 1) := by decide +kernel
theorem dX0_suggest_180 : decode cX0_suggest 180 = .ok (.goto 5, 3) := by decide +kernel
theorem dX0_suggest_183 : decode cX0_suggest 183 = .ok (.iload 6, 2) := by decide +kernel
theorem dX0_suggest_185 : decode cX0_suggest 185 = .ok (.ireturn, 1) := by decide +kernel
theorem dX0_suggest_186 : decode cX0_suggest 186 = .ok (.aload_n 0, 1) := by decide +kernel
theorem dX0_suggest_187 : decode cX0_suggest 187 = .ok (.iload_n 1, 1) := by decide +kernel
theorem dX0_suggest_188 : decode cX0_suggest 188 = .ok (.iload_n 2, 1) := by decide +kernel
theorem dX0_suggest_189 : decode cX0_suggest 189 = .ok (.invokevirtual 194, 3) := by decide +kernel
theorem dX0_suggest_192 : decode cX0_suggest 192 = .ok (.invokestatic 197, 3) := by decide +kernel
theorem dX0_suggest_195 : decode cX0_suggest 195 = .ok (.ireturn, 1) := by decide +kernel
theorem dX0_suggest_196 : decode cX0_suggest 196 = .ok (.aload_n 0, 1) := by decide +kernel
theorem dX0_suggest_197 : decode cX0_suggest 197 = .ok (.getfield 13, 3) := by decide +kernel
theorem dX0_suggest_200 : decode cX0_suggest 200 = .ok (.iload_n 1, 1) := by decide +kernel
theorem dX0_suggest_201 : decode cX0_suggest 201 = .ok (.iaload, 1) := by decide +kernel
theorem dX0_suggest_202 : decode cX0_suggest 202 = .ok (.iload_n 2, 1) := by decide +kernel
theorem dX0_suggest_203 : decode cX0_suggest 203 = .ok (.invokestatic 187, 3) := by decide +kernel
theorem dX0_suggest_206 : decode cX0_suggest 206 = .ok (.ifCond .eq 12, 3) := by decide +kernel
theorem dX0_suggest_209 : decode cX0_suggest 209 = .ok (.aload_n 0, 1) := by decide +kernel
theorem dX0_suggest_210 : decode cX0_suggest 210 = .ok (.iload_n 1, 1) := by decide +kernel
theorem dX0_suggest_211 : decode cX0_suggest 211 = .ok (.iload_n 3, 1) := by decide +kernel
theorem dX0_suggest_212 : decode cX0_suggest 212 = .ok (.invokevirtual 200, 3) := by decide +kernel
theorem dX0_suggest_215 : decode cX0_suggest 215 = .ok (.goto 4, 3) := by decide +kernel
theorem dX0_suggest_218 : decode cX0_suggest 218 = .ok (.iconst 0, 1) := by decide +kernel
theorem dX0_suggest_219 : decode cX0_suggest 219 = .ok (.ireturn, 1) := by decide +kernel
theorem dX0_suggestOfPair_0 : decode cX0_suggestOfPair 0 = .ok (.aload_n 0, 1) := by decide +kernel
theorem dX0_suggestOfPair_1 : decode cX0_suggestOfPair 1 = .ok (.aload_n 0, 1) := by decide +kernel
theorem dX0_suggestOfPair_2 : decode cX0_suggestOfPair 2 = .ok (.getfield 13, 3) := by decide +kernel
theorem dX0_suggestOfPair_5 : decode cX0_suggestOfPair 5 = .ok (.iload_n 1, 1) := by decide +kernel
theorem dX0_suggestOfPair_6 : decode cX0_suggestOfPair 6 = .ok (.iaload, 1) := by decide +kernel
theorem dX0_suggestOfPair_7 : decode cX0_suggestOfPair 7 = .ok (.iload_n 2, 1) := by decide +kernel
theorem dX0_suggestOfPair_8 : decode cX0_suggestOfPair 8 = .ok (.iload_n 3, 1) := by decide +kernel
theorem dX0_suggestOfPair_9 : decode cX0_suggestOfPair 9 = .ok (.iload 4, 2) := by decide +kernel
theorem dX0_suggestOfPair_11 : decode cX0_suggestOfPair 11 = .ok (.invokevirtual 180, 3) := by decide +kernel
theorem dX0_suggestOfPair_14 : decode cX0_suggestOfPair 14 = .ok (.istore 5, 2) := by decide +kernel
theorem dX0_suggestOfPair_16 : decode cX0_suggestOfPair 16 = .ok (.aload_n 0, 1) := by decide +kernel
theorem dX0_suggestOfPair_17 : decode cX0_suggestOfPair 17 = .ok (.getfield 9, 3) := by decide +kernel
theorem dX0_suggestOfPair_20 : decode cX0_suggestOfPair 20 = .ok (.iload_n 1, 1) := by decide +kernel
theorem dX0_suggestOfPair_21 : decode cX0_suggestOfPair 21 = .ok (.iaload, 1) := by decide +kernel
theorem dX0_suggestOfPair_22 : decode cX0_suggestOfPair 22 = .ok (.bipush 8, 2) := by decide +kernel
theorem dX0_suggestOfPair_24 : decode cX0_suggestOfPair 24 = .ok (.if_icmp .eq 14, 3) := by decide +kernel
theorem dX0_suggestOfPair_27 : decode cX0_suggestOfPair 27 = .ok (.aload_n 0, 1) := by decide +kernel
theorem dX0_suggestOfPair_28 : decode cX0_suggestOfPair 28 = .ok (.getfield 9, 3) := by decide +kernel
theorem dX0_suggestOfPair_31 : decode cX0_suggestOfPair 31 = .ok (.iload_n 1, 1) := by decide +kernel
theorem dX0_suggestOfPair_32 : decode cX0_suggestOfPair 32 = .ok (.iaload, 1) := by decide +kernel
theorem dX0_suggestOfPair_33 : decode cX0_suggestOfPair 33 = .ok (.bipush 9, 2) := by decide +kernel
theorem dX0_suggestOfPair_35 : decode cX0_suggestOfPair 35 = .ok (.if_icmp .ne 7, 3) := by decide +kernel
theorem dX0_suggestOfPair_38 : decode cX0_suggestOfPair 38 = .ok (.iconst 1, 1) := by decide +kernel
theorem dX0_suggestOfPair_39 : decode cX0_suggestOfPair 39 = .ok (.goto 4, 3) := by decide +kernel
theorem dX0_suggestOfPair_42 : decode cX0_suggestOfPair 42 = .ok (.iconst 0, 1) := by decide +kernel
theorem dX0_suggestOfPair_43 : decode cX0_suggestOfPair 43 = .ok (.istore 6, 2) := by decide +kernel
theorem dX0_suggestOfPair_45 : decode cX0_suggestOfPair 45 = .ok (.iload 6, 2) := by decide +kernel
theorem dX0_suggestOfPair_47 : decode cX0_suggestOfPair 47 = .ok (.ifCond .ne 24, 3) := by decide +kernel
theorem dX0_suggestOfPair_50 : decode cX0_suggestOfPair 50 = .ok (.aload_n 0, 1) := by decide +kernel
theorem dX0_suggestOfPair_51 : decode cX0_suggestOfPair 51 = .ok (.getfield 9, 3) := by decide +kernel
theorem dX0_suggestOfPair_54 : decode cX0_suggestOfPair 54 = .ok (.iload_n 1, 1) := by decide +kernel
theorem dX0_suggestOfPair_55 : decode cX0_suggestOfPair 55 = .ok (.iaload, 1) := by decide +kernel
theorem dX0_suggestOfPair_56 : decode cX0_suggestOfPair 56 = .ok (.iload 5, 2) := by decide +kernel
theorem dX0_suggestOfPair_58 : decode cX0_suggestOfPair 58 = .ok (.invokestatic 137, 3) := by decide +kernel
theorem dX0_suggestOfPair_61 : decode cX0_suggestOfPair 61 = .ok (.iconst 0, 1) := by decide +kernel
theorem dX0_suggestOfPair_62 : decode cX0_suggestOfPair 62 = .ok (.invokestatic 203, 3) := by decide +kernel
theorem dX0_suggestOfPair_65 : decode cX0_suggestOfPair 65 = .ok (.ifCond .eq 6, 3) := by decide +kernel
theorem dX0_suggestOfPair_68 : decode cX0_suggestOfPair 68 = .ok (.iload 5, 2) := by decide +kernel
theorem dX0_suggestOfPair_70 : decode cX0_suggestOfPair 70 = .ok (.ireturn, 1) := by decide +kernel
theorem dX0_suggestOfPair_71 : decode cX0_suggestOfPair 71 = .ok (.aload_n 0, 1) := by decide +kernel
theorem dX0_suggestOfPair_72 : decode cX0_suggestOfPair 72 = .ok (.aload_n 0, 1) := by decide +kernel
theorem dX0_suggestOfPair_73 : decode cX0_suggestOfPair 73 = .ok (.getfield 16, 3) := by decide +kernel
theorem dX0_suggestOfPair_76 : decode cX0_suggestOfPair 76 = .ok (.iload_n 1, 1) := by decide +kernel
theorem dX0_suggestOfPair_77 : decode cX0_suggestOfPair 77 = .ok (.iaload, 1) := by decide +kernel
theorem dX0_suggestOfPair_78 : decode cX0_suggestOfPair 78 = .ok (.iload_n 2, 1) := by decide +kernel
theorem dX0_suggestOfPair_79 : decode cX0_suggestOfPair 79 = .ok (.iload_n 3, 1) := by decide +kernel
theorem dX0_suggestOfPair_80 : decode cX0_suggestOfPair 80 = .ok (.iload 4, 2) := by decide +kernel
theorem dX0_suggestOfPair_82 : decode cX0_suggestOfPair 82 = .ok (.invokevirtual 180, 3) := by decide +kernel
theorem dX0_suggestOfPair_85 : decode cX0_suggestOfPair 85 = .ok (.istore 7, 2) := by decide +kernel
theorem dX0_suggestOfPair_87 : decode cX0_suggestOfPair 87 = .ok (.aload_n 0, 1) := by decide +kernel
theorem dX0_suggestOfPair_88 : decode cX0_suggestOfPair 88 = .ok (.getfield 9, 3) := by decide +kernel
theorem dX0_suggestOfPair_91 : decode cX0_suggestOfPair 91 = .ok (.iload_n 1, 1) := by decide +kernel
theorem dX0_suggestOfPair_92 : decode cX0_suggestOfPair 92 = .ok (.iaload, 1) := by decide +kernel
theorem dX0_suggestOfPair_93 : decode cX0_suggestOfPair 93 = .ok (.iload 5, 2) := by decide +kernel
theorem dX0_suggestOfPair_95 : decode cX0_suggestOfPair 95 = .ok (.invokestatic 137, 3) := by decide +kernel
theorem dX0_suggestOfPair_98 : decode cX0_suggestOfPair 98 = .ok (.iload 7, 2) := by decide +kernel
theorem dX0_suggestOfPair_100 : decode cX0_suggestOfPair 100 = .ok (.invokestatic 137, 3) := by decide +kernel
theorem dX0_suggestOfPair_103 : decode cX0_suggestOfPair 103 = .ok (.invokestatic 203, 3) := by decide +kernel
theorem dX0_suggestOfPair_106 : decode cX0_suggestOfPair 106 = .ok (.ifCond .eq 8, 3) := by decide +kernel
theorem dX0_suggestOfPair_109 : decode cX0_suggestOfPair 109 = .ok (.iload 5, 2) := by decide +kernel
theorem dX0_suggestOfPair_111 : decode cX0_suggestOfPair 111 = .ok (.goto 5, 3) := by decide +kernel
theorem dX0_suggestOfPair_114 : decode cX0_suggestOfPair 114 = .ok (.iload 7, 2) := by decide +kernel
theorem dX0_suggestOfPair_116 : decode cX0_suggestOfPair 116 = .ok (.ireturn, 1) := by decide +kernel
theorem dX0_takesFirst_0 : decode cX0_takesFirst 0 = .ok (.iload_n 0, 1) := by decide +kernel
theorem dX0_takesFirst_1 : decode cX0_takesFirst 1 = .ok (.tableswitch 67 8 10 #[27, 38, 57], 27) := by decide +kernel
theorem dX0_takesFirst_28 : decode cX0_takesFirst 28 = .ok (.iload_n 1, 1) := by decide +kernel
theorem dX0_takesFirst_29 : decode cX0_takesFirst 29 = .ok (.iload_n 2, 1) := by decide +kernel
theorem dX0_takesFirst_30 : decode cX0_takesFirst 30 = .ok (.if_icmp .lt 7, 3) := by decide +kernel
theorem dX0_takesFirst_33 : decode cX0_takesFirst 33 = .ok (.iconst 1, 1) := by decide +kernel
theorem dX0_takesFirst_34 : decode cX0_takesFirst 34 = .ok (.goto 4, 3) := by decide +kernel
theorem dX0_takesFirst_37 : decode cX0_takesFirst 37 = .ok (.iconst 0, 1) := by decide +kernel
theorem dX0_takesFirst_38 : decode cX0_takesFirst 38 = .ok (.ireturn, 1) := by decide +kernel
theorem dX0_takesFirst_39 : decode cX0_takesFirst 39 = .ok (.iload_n 2, 1) := by decide +kernel
theorem dX0_takesFirst_40 : decode cX0_takesFirst 40 = .ok (.ifCond .eq 12, 3) := by decide +kernel
theorem dX0_takesFirst_43 : decode cX0_takesFirst 43 = .ok (.iload_n 1, 1) := by decide +kernel
theorem dX0_takesFirst_44 : decode cX0_takesFirst 44 = .ok (.ifCond .eq 12, 3) := by decide +kernel
theorem dX0_takesFirst_47 : decode cX0_takesFirst 47 = .ok (.iload_n 1, 1) := by decide +kernel
theorem dX0_takesFirst_48 : decode cX0_takesFirst 48 = .ok (.iload_n 2, 1) := by decide +kernel
theorem dX0_takesFirst_49 : decode cX0_takesFirst 49 = .ok (.if_icmp .gt 7, 3) := by decide +kernel
theorem dX0_takesFirst_52 : decode cX0_takesFirst 52 = .ok (.iconst 1, 1) := by decide +kernel
theorem dX0_takesFirst_53 : decode cX0_takesFirst 53 = .ok (.goto 4, 3) := by decide +kernel
theorem dX0_takesFirst_56 : decode cX0_takesFirst 56 = .ok (.iconst 0, 1) := by decide +kernel
theorem dX0_takesFirst_57 : decode cX0_takesFirst 57 = .ok (.ireturn, 1) := by decide +kernel
theorem dX0_takesFirst_58 : decode cX0_takesFirst 58 = .ok (.iload_n 1, 1) := by decide +kernel
theorem dX0_takesFirst_59 : decode cX0_takesFirst 59 = .ok (.ifCond .eq 7, 3) := by decide +kernel
theorem dX0_takesFirst_62 : decode cX0_takesFirst 62 = .ok (.iconst 1, 1) := by decide +kernel
theorem dX0_takesFirst_63 : decode cX0_takesFirst 63 = .ok (.goto 4, 3) := by decide +kernel
theorem dX0_takesFirst_66 : decode cX0_takesFirst 66 = .ok (.iconst 0, 1) := by decide +kernel
theorem dX0_takesFirst_67 : decode cX0_takesFirst 67 = .ok (.ireturn, 1) := by decide +kernel
theorem dX0_takesFirst_68 : decode cX0_takesFirst 68 = .ok (.iload_n 1, 1) := by decide +kernel
theorem dX0_takesFirst_69 : decode cX0_takesFirst 69 = .ok (.iconst 2, 1) := by decide +kernel
theorem dX0_takesFirst_70 : decode cX0_takesFirst 70 = .ok (.if_icmp .lt 7, 3) := by decide +kernel
theorem dX0_takesFirst_73 : decode cX0_takesFirst 73 = .ok (.iconst 1, 1) := by decide +kernel
theorem dX0_takesFirst_74 : decode cX0_takesFirst 74 = .ok (.goto 4, 3) := by decide +kernel
theorem dX0_takesFirst_77 : decode cX0_takesFirst 77 = .ok (.iconst 0, 1) := by decide +kernel
theorem dX0_takesFirst_78 : decode cX0_takesFirst 78 = .ok (.ireturn, 1) := by decide +kernel
theorem dX0_nextEntry_0 : decode cX0_nextEntry 0 = .ok (.aload_n 0, 1) := by decide +kernel
theorem dX0_nextEntry_1 : decode cX0_nextEntry 1 = .ok (.getfield 35, 3) := by decide +kernel
theorem dX0_nextEntry_4 : decode cX0_nextEntry 4 = .ok (.aload_n 0, 1) := by decide +kernel
theorem dX0_nextEntry_5 : decode cX0_nextEntry 5 = .ok (.getfield 13, 3) := by decide +kernel
theorem dX0_nextEntry_8 : decode cX0_nextEntry 8 = .ok (.iload_n 1, 1) := by decide +kernel
theorem dX0_nextEntry_9 : decode cX0_nextEntry 9 = .ok (.iaload, 1) := by decide +kernel
theorem dX0_nextEntry_10 : decode cX0_nextEntry 10 = .ok (.aload_n 0, 1) := by decide +kernel
theorem dX0_nextEntry_11 : decode cX0_nextEntry 11 = .ok (.getfield 29, 3) := by decide +kernel
theorem dX0_nextEntry_14 : decode cX0_nextEntry 14 = .ok (.iload_n 1, 1) := by decide +kernel
theorem dX0_nextEntry_15 : decode cX0_nextEntry 15 = .ok (.iaload, 1) := by decide +kernel
theorem dX0_nextEntry_16 : decode cX0_nextEntry 16 = .ok (.iload_n 2, 1) := by decide +kernel
theorem dX0_nextEntry_17 : decode cX0_nextEntry 17 = .ok (.invokestatic 66, 3) := by decide +kernel
theorem dX0_nextEntry_20 : decode cX0_nextEntry 20 = .ok (.iaload, 1) := by decide +kernel
theorem dX0_nextEntry_21 : decode cX0_nextEntry 21 = .ok (.ireturn, 1) := by decide +kernel
theorem dX0_suggestOfEntry_0 : decode cX0_suggestOfEntry 0 = .ok (.iload_n 0, 1) := by decide +kernel
theorem dX0_suggestOfEntry_1 : decode cX0_suggestOfEntry 1 = .ok (.iconst 5, 1) := by decide +kernel
theorem dX0_suggestOfEntry_2 : decode cX0_suggestOfEntry 2 = .ok (.if_icmp .ne 5, 3) := by decide +kernel
theorem dX0_suggestOfEntry_5 : decode cX0_suggestOfEntry 5 = .ok (.iconst 0, 1) := by decide +kernel
theorem dX0_suggestOfEntry_6 : decode cX0_suggestOfEntry 6 = .ok (.ireturn, 1) := by decide +kernel
theorem dX0_suggestOfEntry_7 : decode cX0_suggestOfEntry 7 = .ok (.iload_n 0, 1) := by decide +kernel
theorem dX0_suggestOfEntry_8 : decode cX0_suggestOfEntry 8 = .ok (.iconst 4, 1) := by decide +kernel
theorem dX0_suggestOfEntry_9 : decode cX0_suggestOfEntry 9 = .ok (.if_icmp .eq 7, 3) := by decide +kernel
theorem dX0_suggestOfEntry_12 : decode cX0_suggestOfEntry 12 = .ok (.iconst 1, 1) := by decide +kernel
theorem dX0_suggestOfEntry_13 : decode cX0_suggestOfEntry 13 = .ok (.goto 4, 3) := by decide +kernel
theorem dX0_suggestOfEntry_16 : decode cX0_suggestOfEntry 16 = .ok (.iconst 0, 1) := by decide +kernel
theorem dX0_suggestOfEntry_17 : decode cX0_suggestOfEntry 17 = .ok (.invokestatic 206, 3) := by decide +kernel
theorem dX0_suggestOfEntry_20 : decode cX0_suggestOfEntry 20 = .ok (.ireturn, 1) := by decide +kernel
theorem dX0_suggestInSet_0 : decode cX0_suggestInSet 0 = .ok (.aload_n 0, 1) := by decide +kernel
theorem dX0_suggestInSet_1 : decode cX0_suggestInSet 1 = .ok (.getfield 9, 3) := by decide +kernel
theorem dX0_suggestInSet_4 : decode cX0_suggestInSet 4 = .ok (.iload_n 1, 1) := by decide +kernel
theorem dX0_suggestInSet_5 : decode cX0_suggestInSet 5 = .ok (.iaload, 1) := by decide +kernel
theorem dX0_suggestInSet_6 : decode cX0_suggestInSet 6 = .ok (.tableswitch 130 0 7 #[46, 48, 50, 52, 76, 82, 130, 101], 46) := by decide +kernel
theorem dX0_suggestInSet_52 : decode cX0_suggestInSet 52 = .ok (.iconst 1, 1) := by decide +kernel
theorem dX0_suggestInSet_53 : decode cX0_suggestInSet 53 = .ok (.ireturn, 1) := by decide +kernel
theorem dX0_suggestInSet_54 : decode cX0_suggestInSet 54 = .ok (.iconst 4, 1) := by decide +kernel
theorem dX0_suggestInSet_55 : decode cX0_suggestInSet 55 = .ok (.ireturn, 1) := by decide +kernel
theorem dX0_suggestInSet_56 : decode cX0_suggestInSet 56 = .ok (.iconst 5, 1) := by decide +kernel
theorem dX0_suggestInSet_57 : decode cX0_suggestInSet 57 = .ok (.ireturn, 1) := by decide +kernel
theorem dX0_suggestInSet_58 : decode cX0_suggestInSet 58 = .ok (.aload_n 0, 1) := by decide +kernel
theorem dX0_suggestInSet_59 : decode cX0_suggestInSet 59 = .ok (.getfield 29, 3) := by decide +kernel
theorem dX0_suggestInSet_62 : decode cX0_suggestInSet 62 = .ok (.iload_n 1, 1) := by decide +kernel
theorem dX0_suggestInSet_63 : decode cX0_suggestInSet 63 = .ok (.iaload, 1) := by decide +kernel
theorem dX0_suggestInSet_64 : decode cX0_suggestInSet 64 = .ok (.aload_n 0, 1) := by decide +kernel
theorem dX0_suggestInSet_65 : decode cX0_suggestInSet 65 = .ok (.getfield 16, 3) := by decide +kernel
theorem dX0_suggestInSet_68 : decode cX0_suggestInSet 68 = .ok (.iload_n 1, 1) := by decide +kernel
theorem dX0_suggestInSet_69 : decode cX0_suggestInSet 69 = .ok (.iaload, 1) := by decide +kernel
theorem dX0_suggestInSet_70 : decode cX0_suggestInSet 70 = .ok (.if_icmp .ge 7, 3) := by decide +kernel
theorem dX0_suggestInSet_73 : decode cX0_suggestInSet 73 = .ok (.iconst 1, 1) := by decide +kernel
theorem dX0_suggestInSet_74 : decode cX0_suggestInSet 74 = .ok (.goto 4, 3) := by decide +kernel
theorem dX0_suggestInSet_77 : decode cX0_suggestInSet 77 = .ok (.iconst 0, 1) := by decide +kernel
theorem dX0_suggestInSet_78 : decode cX0_suggestInSet 78 = .ok (.invokestatic 206, 3) := by decide +kernel
theorem dX0_suggestInSet_81 : decode cX0_suggestInSet 81 = .ok (.ireturn, 1) := by decide +kernel
theorem dX0_suggestInSet_82 : decode cX0_suggestInSet 82 = .ok (.iconst 3, 1) := by decide +kernel
theorem dX0_suggestInSet_83 : decode cX0_suggestInSet 83 = .ok (.iload_n 1, 1) := by decide +kernel
theorem dX0_suggestInSet_84 : decode cX0_suggestInSet 84 = .ok (.invokestatic 210, 3) := by decide +kernel
theorem dX0_suggestInSet_87 : decode cX0_suggestInSet 87 = .ok (.ireturn, 1) := by decide +kernel
theorem dX0_suggestInSet_88 : decode cX0_suggestInSet 88 = .ok (.aload_n 0, 1) := by decide +kernel
theorem dX0_suggestInSet_89 : decode cX0_suggestInSet 89 = .ok (.getfield 32, 3) := by decide +kernel
theorem dX0_suggestInSet_92 : decode cX0_suggestInSet 92 = .ok (.iload_n 1, 1) := by decide +kernel
theorem dX0_suggestInSet_93 : decode cX0_suggestInSet 93 = .ok (.baload, 1) := by decide +kernel
theorem dX0_suggestInSet_94 : decode cX0_suggestInSet 94 = .ok (.ifCond .eq 7, 3) := by decide +kernel
theorem dX0_suggestInSet_97 : decode cX0_suggestInSet 97 = .ok (.iconst 0, 1) := by decide +kernel
theorem dX0_suggestInSet_98 : decode cX0_suggestInSet 98 = .ok (.goto 8, 3) := by decide +kernel
theorem dX0_suggestInSet_101 : decode cX0_suggestInSet 101 = .ok (.iconst 2, 1) := by decide +kernel
theorem dX0_suggestInSet_102 : decode cX0_suggestInSet 102 = .ok (.iload_n 1, 1) := by decide +kernel
theorem dX0_suggestInSet_103 : decode cX0_suggestInSet 103 = .ok (.invokestatic 210, 3) := by decide +kernel
theorem dX0_suggestInSet_106 : decode cX0_suggestInSet 106 = .ok (.ireturn, 1) := by decide +kernel
theorem dX0_suggestInSet_107 : decode cX0_suggestInSet 107 = .ok (.aload_n 0, 1) := by decide +kernel
theorem dX0_suggestInSet_108 : decode cX0_suggestInSet 108 = .ok (.getfield 16, 3) := by decide +kernel
theorem dX0_suggestInSet_111 : decode cX0_suggestInSet 111 = .ok (.iload_n 1, 1) := by decide +kernel
theorem dX0_suggestInSet_112 : decode cX0_suggestInSet 112 = .ok (.iaload, 1) := by decide +kernel
theorem dX0_suggestInSet_113 : decode cX0_suggestInSet 113 = .ok (.iload_n 2, 1) := by decide +kernel
theorem dX0_suggestInSet_114 : decode cX0_suggestInSet 114 = .ok (.if_icmp .gt 17, 3) := by decide +kernel
theorem dX0_suggestInSet_117 : decode cX0_suggestInSet 117 = .ok (.iload_n 2, 1) := by decide +kernel
theorem dX0_suggestInSet_118 : decode cX0_suggestInSet 118 = .ok (.aload_n 0, 1) := by decide +kernel
theorem dX0_suggestInSet_119 : decode cX0_suggestInSet 119 = .ok (.getfield 19, 3) := by decide +kernel
theorem dX0_suggestInSet_122 : decode cX0_suggestInSet 122 = .ok (.iload_n 1, 1) := by decide +kernel
theorem dX0_suggestInSet_123 : decode cX0_suggestInSet 123 = .ok (.iaload, 1) := by decide +kernel
theorem dX0_suggestInSet_124 : decode cX0_suggestInSet 124 = .ok (.if_icmp .gt 7, 3) := by decide +kernel
theorem dX0_suggestInSet_127 : decode cX0_suggestInSet 127 = .ok (.iconst 1, 1) := by decide +kernel
theorem dX0_suggestInSet_128 : decode cX0_suggestInSet 128 = .ok (.goto 4, 3) := by decide +kernel
theorem dX0_suggestInSet_131 : decode cX0_suggestInSet 131 = .ok (.iconst 0, 1) := by decide +kernel
theorem dX0_suggestInSet_132 : decode cX0_suggestInSet 132 = .ok (.invokestatic 206, 3) := by decide +kernel
theorem dX0_suggestInSet_135 : decode cX0_suggestInSet 135 = .ok (.ireturn, 1) := by decide +kernel
theorem dX0_suggestInSet_136 : decode cX0_suggestInSet 136 = .ok (.iconst 0, 1) := by decide +kernel
theorem dX0_suggestInSet_137 : decode cX0_suggestInSet 137 = .ok (.ireturn, 1) := by decide +kernel
theorem dX0_okOnlyIf_0 : decode cX0_okOnlyIf 0 = .ok (.iload_n 0, 1) := by decide +kernel
theorem dX0_okOnlyIf_1 : decode cX0_okOnlyIf 1 = .ok (.ifCond .eq 7, 3) := by decide +kernel
theorem dX0_okOnlyIf_4 : decode cX0_okOnlyIf 4 = .ok (.iconst 1, 1) := by decide +kernel
theorem dX0_okOnlyIf_5 : decode cX0_okOnlyIf 5 = .ok (.goto 4, 3) := by decide +kernel
theorem dX0_okOnlyIf_8 : decode cX0_okOnlyIf 8 = .ok (.iconst 4, 1) := by decide +kernel
theorem dX0_okOnlyIf_9 : decode cX0_okOnlyIf 9 = .ok (.ireturn, 1) := by decide +kernel
theorem dX0_addNote_0 : decode cX0_addNote 0 = .ok (.aload_n 0, 1) := by decide +kernel
theorem dX0_addNote_1 : decode cX0_addNote 1 = .ok (.getfield 41, 3) := by decide +kernel
theorem dX0_addNote_4 : decode cX0_addNote 4 = .ok (.aload_n 0, 1) := by decide +kernel
theorem dX0_addNote_5 : decode cX0_addNote 5 = .ok (.getfield 148, 3) := by decide +kernel
theorem dX0_addNote_8 : decode cX0_addNote 8 = .ok (.bipush 16, 2) := by decide +kernel
theorem dX0_addNote_10 : decode cX0_addNote 10 = .ok (.invokestatic 151, 3) := by decide +kernel
theorem dX0_addNote_13 : decode cX0_addNote 13 = .ok (.iload_n 1, 1) := by decide +kernel
theorem dX0_addNote_14 : decode cX0_addNote 14 = .ok (.iastore, 1) := by decide +kernel
theorem dX0_addNote_15 : decode cX0_addNote 15 = .ok (.aload_n 0, 1) := by decide +kernel
theorem dX0_addNote_16 : decode cX0_addNote 16 = .ok (.dup, 1) := by decide +kernel
theorem dX0_addNote_17 : decode cX0_addNote 17 = .ok (.getfield 148, 3) := by decide +kernel
theorem dX0_addNote_20 : decode cX0_addNote 20 = .ok (.iconst 1, 1) := by decide +kernel
theorem dX0_addNote_21 : decode cX0_addNote 21 = .ok (.iadd, 1) := by decide +kernel
theorem dX0_addNote_22 : decode cX0_addNote 22 = .ok (.putfield 148, 3) := by decide +kernel
theorem dX0_addNote_25 : decode cX0_addNote 25 = .ok (.return_, 1) := by decide +kernel
theorem dX0_accept_0 : decode cX0_accept 0 = .ok (.aload_n 0, 1) := by decide +kernel
theorem dX0_accept_1 : decode cX0_accept 1 = .ok (.getfield 9, 3) := by decide +kernel
theorem dX0_accept_4 : decode cX0_accept 4 = .ok (.iload_n 1, 1) := by decide +kernel
theorem dX0_accept_5 : decode cX0_accept 5 = .ok (.iaload, 1) := by decide +kernel
theorem dX0_accept_6 : decode cX0_accept 6 = .ok (.tableswitch 243 3 14 #[62, 243, 243, 88, 243, 97, 124, 124, 124, 200, 228, 228], 62) := by decide +kernel
theorem dX0_accept_68 : decode cX0_accept 68 = .ok (.aload_n 0, 1) := by decide +kernel
theorem dX0_accept_69 : decode cX0_accept 69 = .ok (.getfield 13, 3) := by decide +kernel
theorem dX0_accept_72 : decode cX0_accept 72 = .ok (.iload_n 1, 1) := by decide +kernel
theorem dX0_accept_73 : decode cX0_accept 73 = .ok (.iaload, 1) := by decide +kernel
theorem dX0_accept_74 : decode cX0_accept 74 = .ok (.iload_n 2, 1) := by decide +kernel
theorem dX0_accept_75 : decode cX0_accept 75 = .ok (.invokestatic 187, 3) := by decide +kernel
theorem dX0_accept_78 : decode cX0_accept 78 = .ok (.ifCond .eq 171, 3) := by decide +kernel
theorem dX0_accept_81 : decode cX0_accept 81 = .ok (.aload_n 0, 1) := by decide +kernel
theorem dX0_accept_82 : decode cX0_accept 82 = .ok (.getfield 29, 3) := by decide +kernel
theorem dX0_accept_85 : decode cX0_accept 85 = .ok (.iload_n 1, 1) := by decide +kernel
theorem dX0_accept_86 : decode cX0_accept 86 = .ok (.dup2, 1) := by decide +kernel
theorem dX0_accept_87 : decode cX0_accept 87 = .ok (.iaload, 1) := by decide +kernel
theorem dX0_accept_88 : decode cX0_accept 88 = .ok (.iconst 1, 1) := by decide +kernel
theorem dX0_accept_89 : decode cX0_accept 89 = .ok (.iadd, 1) := by decide +kernel
theorem dX0_accept_90 : decode cX0_accept 90 = .ok (.iastore, 1) := by decide +kernel
theorem dX0_accept_91 : decode cX0_accept 91 = .ok (.goto 158, 3) := by decide +kernel
theorem dX0_accept_94 : decode cX0_accept 94 = .ok (.aload_n 0, 1) := by decide +kernel
theorem dX0_accept_95 : decode cX0_accept 95 = .ok (.iload_n 1, 1) := by decide +kernel
theorem dX0_accept_96 : decode cX0_accept 96 = .ok (.iload_n 2, 1) := by decide +kernel
theorem dX0_accept_97 : decode cX0_accept 97 = .ok (.invokevirtual 213, 3) := by decide +kernel
theorem dX0_accept_100 : decode cX0_accept 100 = .ok (.goto 149, 3) := by decide +kernel
theorem dX0_accept_103 : decode cX0_accept 103 = .ok (.aload_n 0, 1) := by decide +kernel
theorem dX0_accept_104 : decode cX0_accept 104 = .ok (.aload_n 0, 1) := by decide +kernel
theorem dX0_accept_105 : decode cX0_accept 105 = .ok (.getfield 13, 3) := by decide +kernel
theorem dX0_accept_108 : decode cX0_accept 108 = .ok (.iload_n 1, 1) := by decide +kernel
theorem dX0_accept_109 : decode cX0_accept 109 = .ok (.iaload, 1) := by decide +kernel
theorem dX0_accept_110 : decode cX0_accept 110 = .ok (.iload_n 2, 1) := by decide +kernel
theorem dX0_accept_111 : decode cX0_accept 111 = .ok (.iload_n 3, 1) := by decide +kernel
theorem dX0_accept_112 : decode cX0_accept 112 = .ok (.invokevirtual 217, 3) := by decide +kernel
theorem dX0_accept_115 : decode cX0_accept 115 = .ok (.aload_n 0, 1) := by decide +kernel
theorem dX0_accept_116 : decode cX0_accept 116 = .ok (.aload_n 0, 1) := by decide +kernel
theorem dX0_accept_117 : decode cX0_accept 117 = .ok (.getfield 16, 3) := by decide +kernel
theorem dX0_accept_120 : decode cX0_accept 120 = .ok (.iload_n 1, 1) := by decide +kernel
theorem dX0_accept_121 : decode cX0_accept 121 = .ok (.iaload, 1) := by decide +kernel
theorem dX0_accept_122 : decode cX0_accept 122 = .ok (.iload_n 2, 1) := by decide +kernel
theorem dX0_accept_123 : decode cX0_accept 123 = .ok (.iload_n 3, 1) := by decide +kernel
theorem dX0_accept_124 : decode cX0_accept 124 = .ok (.invokevirtual 217, 3) := by decide +kernel
theorem dX0_accept_127 : decode cX0_accept 127 = .ok (.goto 122, 3) := by decide +kernel
theorem dX0_accept_130 : decode cX0_accept 130 = .ok (.aload_n 0, 1) := by decide +kernel
theorem dX0_accept_131 : decode cX0_accept 131 = .ok (.aload_n 0, 1) := by decide +kernel
theorem dX0_accept_132 : decode cX0_accept 132 = .ok (.getfield 13, 3) := by decide +kernel
theorem dX0_accept_135 : decode cX0_accept 135 = .ok (.iload_n 1, 1) := by decide +kernel
theorem dX0_accept_136 : decode cX0_accept 136 = .ok (.iaload, 1) := by decide +kernel
theorem dX0_accept_137 : decode cX0_accept 137 = .ok (.iload_n 2, 1) := by decide +kernel
theorem dX0_accept_138 : decode cX0_accept 138 = .ok (.iload_n 3, 1) := by decide +kernel
theorem dX0_accept_139 : decode cX0_accept 139 = .ok (.iconst 0, 1) := by decide +kernel
theorem dX0_accept_140 : decode cX0_accept 140 = .ok (.invokevirtual 180, 3) := by decide +kernel
theorem dX0_accept_143 : decode cX0_accept 143 = .ok (.invokestatic 137, 3) := by decide +kernel
theorem dX0_accept_146 : decode cX0_accept 146 = .ok (.istore 4, 2) := by decide +kernel
theorem dX0_accept_148 : decode cX0_accept 148 = .ok (.aload_n 0, 1) := by decide +kernel
theorem dX0_accept_149 : decode cX0_accept 149 = .ok (.aload_n 0, 1) := by decide +kernel
theorem dX0_accept_150 : decode cX0_accept 150 = .ok (.getfield 16, 3) := by decide +kernel
theorem dX0_accept_153 : decode cX0_accept 153 = .ok (.iload_n 1, 1) := by decide +kernel
theorem dX0_accept_154 : decode cX0_accept 154 = .ok (.iaload, 1) := by decide +kernel
theorem dX0_accept_155 : decode cX0_accept 155 = .ok (.iload_n 2, 1) := by decide +kernel
theorem dX0_accept_156 : decode cX0_accept 156 = .ok (.iload_n 3, 1) := by decide +kernel
theorem dX0_accept_157 : decode cX0_accept 157 = .ok (.iconst 0, 1) := by decide +kernel
theorem dX0_accept_158 : decode cX0_accept 158 = .ok (.invokevirtual 180, 3) := by decide +kernel
theorem dX0_accept_161 : decode cX0_accept 161 = .ok (.invokestatic 137, 3) := by decide +kernel
theorem dX0_accept_164 : decode cX0_accept 164 = .ok (.istore 5, 2) := by decide +kernel
theorem dX0_accept_166 : decode cX0_accept 166 = .ok (.aload_n 0, 1) := by decide +kernel
theorem dX0_accept_167 : decode cX0_accept 167 = .ok (.aload_n 0, 1) := by decide +kernel
theorem dX0_accept_168 : decode cX0_accept 168 = .ok (.getfield 9, 3) := by decide +kernel
theorem dX0_accept_171 : decode cX0_accept 171 = .ok (.iload_n 1, 1) := by decide +kernel
theorem dX0_accept_172 : decode cX0_accept 172 = .ok (.iaload, 1) := by decide +kernel
theorem dX0_accept_173 : decode cX0_accept 173 = .ok (.iload 4, 2) := by decide +kernel
theorem dX0_accept_175 : decode cX0_accept 175 = .ok (.iload 5, 2) := by decide +kernel
theorem dX0_accept_177 : decode cX0_accept 177 = .ok (.invokestatic 203, 3) := by decide +kernel
theorem dX0_accept_180 : decode cX0_accept 180 = .ok (.ifCond .eq 12, 3) := by decide +kernel
theorem dX0_accept_183 : decode cX0_accept 183 = .ok (.aload_n 0, 1) := by decide +kernel
theorem dX0_accept_184 : decode cX0_accept 184 = .ok (.getfield 13, 3) := by decide +kernel
theorem dX0_accept_187 : decode cX0_accept 187 = .ok (.iload_n 1, 1) := by decide +kernel
theorem dX0_accept_188 : decode cX0_accept 188 = .ok (.iaload, 1) := by decide +kernel
theorem dX0_accept_189 : decode cX0_accept 189 = .ok (.goto 9, 3) := by decide +kernel
theorem dX0_accept_192 : decode cX0_accept 192 = .ok (.aload_n 0, 1) := by decide +kernel
theorem dX0_accept_193 : decode cX0_accept 193 = .ok (.getfield 16, 3) := by decide +kernel
theorem dX0_accept_196 : decode cX0_accept 196 = .ok (.iload_n 1, 1) := by decide +kernel
theorem dX0_accept_197 : decode cX0_accept 197 = .ok (.iaload, 1) := by decide +kernel
theorem dX0_accept_198 : decode cX0_accept 198 = .ok (.iload_n 2, 1) := by decide +kernel
theorem dX0_accept_199 : decode cX0_accept 199 = .ok (.iload_n 3, 1) := by decide +kernel
theorem dX0_accept_200 : decode cX0_accept 200 = .ok (.invokevirtual 217, 3) := by decide +kernel
theorem dX0_accept_203 : decode cX0_accept 203 = .ok (.goto 46, 3) := by decide +kernel
theorem dX0_accept_206 : decode cX0_accept 206 = .ok (.aload_n 0, 1) := by decide +kernel
theorem dX0_accept_207 : decode cX0_accept 207 = .ok (.getfield 13, 3) := by decide +kernel
theorem dX0_accept_210 : decode cX0_accept 210 = .ok (.iload_n 1, 1) := by decide +kernel
theorem dX0_accept_211 : decode cX0_accept 211 = .ok (.iaload, 1) := by decide +kernel
theorem dX0_accept_212 : decode cX0_accept 212 = .ok (.iload_n 2, 1) := by decide +kernel
theorem dX0_accept_213 : decode cX0_accept 213 = .ok (.invokestatic 187, 3) := by decide +kernel
theorem dX0_accept_216 : decode cX0_accept 216 = .ok (.ifCond .eq 33, 3) := by decide +kernel
theorem dX0_accept_219 : decode cX0_accept 219 = .ok (.aload_n 0, 1) := by decide +kernel
theorem dX0_accept_220 : decode cX0_accept 220 = .ok (.aload_n 0, 1) := by decide +kernel
theorem dX0_accept_221 : decode cX0_accept 221 = .ok (.getfield 16, 3) := by decide +kernel
theorem dX0_accept_224 : decode cX0_accept 224 = .ok (.iload_n 1, 1) := by decide +kernel
theorem dX0_accept_225 : decode cX0_accept 225 = .ok (.iaload, 1) := by decide +kernel
theorem dX0_accept_226 : decode cX0_accept 226 = .ok (.iload_n 2, 1) := by decide +kernel
theorem dX0_accept_227 : decode cX0_accept 227 = .ok (.iload_n 3, 1) := by decide +kernel
theorem dX0_accept_228 : decode cX0_accept 228 = .ok (.invokevirtual 217, 3) := by decide +kernel
theorem dX0_accept_231 : decode cX0_accept 231 = .ok (.goto 18, 3) := by decide +kernel
theorem dX0_accept_234 : decode cX0_accept 234 = .ok (.aload_n 0, 1) := by decide +kernel
theorem dX0_accept_235 : decode cX0_accept 235 = .ok (.aload_n 0, 1) := by decide +kernel
theorem dX0_accept_236 : decode cX0_accept 236 = .ok (.getfield 13, 3) := by decide +kernel
theorem dX0_accept_239 : decode cX0_accept 239 = .ok (.iload_n 1, 1) := by decide +kernel
theorem dX0_accept_240 : decode cX0_accept 240 = .ok (.iaload, 1) := by decide +kernel
theorem dX0_accept_241 : decode cX0_accept 241 = .ok (.iload_n 2, 1) := by decide +kernel
theorem dX0_accept_242 : decode cX0_accept 242 = .ok (.iload_n 3, 1) := by decide +kernel
theorem dX0_accept_243 : decode cX0_accept 243 = .ok (.invokevirtual 217, 3) := by decide +kernel
theorem dX0_accept_246 : decode cX0_accept 246 = .ok (.goto 3, 3) := by decide +kernel
theorem dX0_accept_249 : decode cX0_accept 249 = .ok (.return_, 1) := by decide +kernel
theorem dX0_step_0 : decode cX0_step 0 = .ok (.aload_n 0, 1) := by decide +kernel
theorem dX0_step_1 : decode cX0_step 1 = .ok (.iload_n 1, 1) := by decide +kernel
theorem dX0_step_2 : decode cX0_step 2 = .ok (.iload_n 2, 1) := by decide +kernel
theorem dX0_step_3 : decode cX0_step 3 = .ok (.invokevirtual 194, 3) := by decide +kernel
theorem dX0_step_6 : decode cX0_step 6 = .ok (.istore_n 3, 1) := by decide +kernel
theorem dX0_step_7 : decode cX0_step 7 = .ok (.iload_n 3, 1) := by decide +kernel
theorem dX0_step_8 : decode cX0_step 8 = .ok (.iconst 4, 1) := by decide +kernel
theorem dX0_step_9 : decode cX0_step 9 = .ok (.invokestatic 52, 3) := by decide +kernel
theorem dX0_step_12 : decode cX0_step 12 = .ok (.ifCond .eq 10, 3) := by decide +kernel
theorem dX0_step_15 : decode cX0_step 15 = .ok (.aload_n 0, 1) := by decide +kernel
theorem dX0_step_16 : decode cX0_step 16 = .ok (.getfield 29, 3) := by decide +kernel
theorem dX0_step_19 : decode cX0_step 19 = .ok (.iload_n 1, 1) := by decide +kernel
theorem dX0_step_20 : decode cX0_step 20 = .ok (.iload_n 3, 1) := by decide +kernel
theorem dX0_step_21 : decode cX0_step 21 = .ok (.iastore, 1) := by decide +kernel
theorem dX0_step_22 : decode cX0_step 22 = .ok (.return_, 1) := by decide +kernel
theorem dX0_actAtDepth_0 : decode cX0_actAtDepth 0 = .ok (.aload_n 0, 1) := by decide +kernel
theorem dX0_actAtDepth_1 : decode cX0_actAtDepth 1 = .ok (.getfield 44, 3) := by decide +kernel
theorem dX0_actAtDepth_4 : decode cX0_actAtDepth 4 = .ok (.iconst (-1), 1) := by decide +kernel
theorem dX0_actAtDepth_5 : decode cX0_actAtDepth 5 = .ok (.if_icmp .ne 11, 3) := by decide +kernel
theorem dX0_actAtDepth_8 : decode cX0_actAtDepth 8 = .ok (.aload_n 0, 1) := by decide +kernel
theorem dX0_actAtDepth_9 : decode cX0_actAtDepth 9 = .ok (.iload_n 1, 1) := by decide +kernel
theorem dX0_actAtDepth_10 : decode cX0_actAtDepth 10 = .ok (.iload_n 2, 1) := by decide +kernel
theorem dX0_actAtDepth_11 : decode cX0_actAtDepth 11 = .ok (.invokevirtual 221, 3) := by decide +kernel
theorem dX0_actAtDepth_14 : decode cX0_actAtDepth 14 = .ok (.iconst 0, 1) := by decide +kernel
theorem dX0_actAtDepth_15 : decode cX0_actAtDepth 15 = .ok (.ireturn, 1) := by decide +kernel
theorem dX0_actAtDepth_16 : decode cX0_actAtDepth 16 = .ok (.iconst 0, 1) := by decide +kernel
theorem dX0_actAtDepth_17 : decode cX0_actAtDepth 17 = .ok (.istore 4, 2) := by decide +kernel
theorem dX0_actAtDepth_19 : decode cX0_actAtDepth 19 = .ok (.iload 4, 2) := by decide +kernel
theorem dX0_actAtDepth_21 : decode cX0_actAtDepth 21 = .ok (.bipush 40, 2) := by decide +kernel
theorem dX0_actAtDepth_23 : decode cX0_actAtDepth 23 = .ok (.if_icmp .gt 93, 3) := by decide +kernel
theorem dX0_actAtDepth_26 : decode cX0_actAtDepth 26 = .ok (.aload_n 0, 1) := by decide +kernel
theorem dX0_actAtDepth_27 : decode cX0_actAtDepth 27 = .ok (.aload_n 0, 1) := by decide +kernel
theorem dX0_actAtDepth_28 : decode cX0_actAtDepth 28 = .ok (.getfield 44, 3) := by decide +kernel
theorem dX0_actAtDepth_31 : decode cX0_actAtDepth 31 = .ok (.iload_n 1, 1) := by decide +kernel
theorem dX0_actAtDepth_32 : decode cX0_actAtDepth 32 = .ok (.iload_n 2, 1) := by decide +kernel
theorem dX0_actAtDepth_33 : decode cX0_actAtDepth 33 = .ok (.iconst 1, 1) := by decide +kernel
theorem dX0_actAtDepth_34 : decode cX0_actAtDepth 34 = .ok (.invokevirtual 180, 3) := by decide +kernel
theorem dX0_actAtDepth_37 : decode cX0_actAtDepth 37 = .ok (.istore 5, 2) := by decide +kernel
theorem dX0_actAtDepth_39 : decode cX0_actAtDepth 39 = .ok (.iload 5, 2) := by decide +kernel
theorem dX0_actAtDepth_41 : decode cX0_actAtDepth 41 = .ok (.invokestatic 137, 3) := by decide +kernel
theorem dX0_actAtDepth_44 : decode cX0_actAtDepth 44 = .ok (.iconst 2, 1) := by decide +kernel
theorem dX0_actAtDepth_45 : decode cX0_actAtDepth 45 = .ok (.if_icmp .eq 12, 3) := by decide +kernel
theorem dX0_actAtDepth_48 : decode cX0_actAtDepth 48 = .ok (.aload_n 0, 1) := by decide +kernel
theorem dX0_actAtDepth_49 : decode cX0_actAtDepth 49 = .ok (.iload 5, 2) := by decide +kernel
theorem dX0_actAtDepth_51 : decode cX0_actAtDepth 51 = .ok (.iload_n 1, 1) := by decide +kernel
theorem dX0_actAtDepth_52 : decode cX0_actAtDepth 52 = .ok (.iload_n 2, 1) := by decide +kernel
theorem dX0_actAtDepth_53 : decode cX0_actAtDepth 53 = .ok (.invokevirtual 224, 3) := by decide +kernel
theorem dX0_actAtDepth_56 : decode cX0_actAtDepth 56 = .ok (.ireturn, 1) := by decide +kernel
theorem dX0_actAtDepth_57 : decode cX0_actAtDepth 57 = .ok (.iload_n 3, 1) := by decide +kernel
theorem dX0_actAtDepth_58 : decode cX0_actAtDepth 58 = .ok (.iconst 5, 1) := by decide +kernel
theorem dX0_actAtDepth_59 : decode cX0_actAtDepth 59 = .ok (.if_icmp .lt 5, 3) := by decide +kernel
theorem dX0_actAtDepth_62 : decode cX0_actAtDepth 62 = .ok (.iconst 3, 1) := by decide +kernel
theorem dX0_actAtDepth_63 : decode cX0_actAtDepth 63 = .ok (.ireturn, 1) := by decide +kernel
theorem dX0_actAtDepth_64 : decode cX0_actAtDepth 64 = .ok (.iload 5, 2) := by decide +kernel
theorem dX0_actAtDepth_66 : decode cX0_actAtDepth 66 = .ok (.invokestatic 145, 3) := by decide +kernel
theorem dX0_actAtDepth_69 : decode cX0_actAtDepth 69 = .ok (.istore 6, 2) := by decide +kernel
theorem dX0_actAtDepth_71 : decode cX0_actAtDepth 71 = .ok (.aload_n 0, 1) := by decide +kernel
theorem dX0_actAtDepth_72 : decode cX0_actAtDepth 72 = .ok (.getfield 32, 3) := by decide +kernel
theorem dX0_actAtDepth_75 : decode cX0_actAtDepth 75 = .ok (.iload 6, 2) := by decide +kernel
theorem dX0_actAtDepth_77 : decode cX0_actAtDepth 77 = .ok (.iconst 1, 1) := by decide +kernel
theorem dX0_actAtDepth_78 : decode cX0_actAtDepth 78 = .ok (.bastore, 1) := by decide +kernel
theorem dX0_actAtDepth_79 : decode cX0_actAtDepth 79 = .ok (.aload_n 0, 1) := by decide +kernel
theorem dX0_actAtDepth_80 : decode cX0_actAtDepth 80 = .ok (.aload_n 0, 1) := by decide +kernel
theorem dX0_actAtDepth_81 : decode cX0_actAtDepth 81 = .ok (.getfield 16, 3) := by decide +kernel
theorem dX0_actAtDepth_84 : decode cX0_actAtDepth 84 = .ok (.iload 6, 2) := by decide +kernel
theorem dX0_actAtDepth_86 : decode cX0_actAtDepth 86 = .ok (.iaload, 1) := by decide +kernel
theorem dX0_actAtDepth_87 : decode cX0_actAtDepth 87 = .ok (.aload_n 0, 1) := by decide +kernel
theorem dX0_actAtDepth_88 : decode cX0_actAtDepth 88 = .ok (.getfield 19, 3) := by decide +kernel
theorem dX0_actAtDepth_91 : decode cX0_actAtDepth 91 = .ok (.iload 6, 2) := by decide +kernel
theorem dX0_actAtDepth_93 : decode cX0_actAtDepth 93 = .ok (.iaload, 1) := by decide +kernel
theorem dX0_actAtDepth_94 : decode cX0_actAtDepth 94 = .ok (.iload_n 3, 1) := by decide +kernel
theorem dX0_actAtDepth_95 : decode cX0_actAtDepth 95 = .ok (.iconst 1, 1) := by decide +kernel
theorem dX0_actAtDepth_96 : decode cX0_actAtDepth 96 = .ok (.iadd, 1) := by decide +kernel
theorem dX0_actAtDepth_97 : decode cX0_actAtDepth 97 = .ok (.invokevirtual 116, 3) := by decide +kernel
theorem dX0_actAtDepth_100 : decode cX0_actAtDepth 100 = .ok (.istore 7, 2) := by decide +kernel
theorem dX0_actAtDepth_102 : decode cX0_actAtDepth 102 = .ok (.iload 7, 2) := by decide +kernel
theorem dX0_actAtDepth_104 : decode cX0_actAtDepth 104 = .ok (.ifCond .eq 6, 3) := by decide +kernel
theorem dX0_actAtDepth_107 : decode cX0_actAtDepth 107 = .ok (.iload 7, 2) := by decide +kernel
theorem dX0_actAtDepth_109 : decode cX0_actAtDepth 109 = .ok (.ireturn, 1) := by decide +kernel
theorem dX0_actAtDepth_110 : decode cX0_actAtDepth 110 = .ok (.iinc 4 1, 3) := by decide +kernel
theorem dX0_actAtDepth_113 : decode cX0_actAtDepth 113 = .ok (.goto (-94), 3) := by decide +kernel
theorem dX0_actAtDepth_116 : decode cX0_actAtDepth 116 = .ok (.iconst 3, 1) := by decide +kernel
theorem dX0_actAtDepth_117 : decode cX0_actAtDepth 117 = .ok (.ireturn, 1) := by decide +kernel
theorem dX0_follow_0 : decode cX0_follow 0 = .ok (.iload_n 1, 1) := by decide +kernel
theorem dX0_follow_1 : decode cX0_follow 1 = .ok (.invokestatic 137, 3) := by decide +kernel
theorem dX0_follow_4 : decode cX0_follow 4 = .ok (.tableswitch 57 3 5 #[28, 53, 55], 28) := by decide +kernel
theorem dX0_follow_32 : decode cX0_follow 32 = .ok (.aload_n 0, 1) := by decide +kernel
theorem dX0_follow_33 : decode cX0_follow 33 = .ok (.aload_n 0, 1) := by decide +kernel
theorem dX0_follow_34 : decode cX0_follow 34 = .ok (.getfield 16, 3) := by decide +kernel
theorem dX0_follow_37 : decode cX0_follow 37 = .ok (.iload_n 1, 1) := by decide +kernel
theorem dX0_follow_38 : decode cX0_follow 38 = .ok (.invokestatic 145, 3) := by decide +kernel
theorem dX0_follow_41 : decode cX0_follow 41 = .ok (.iaload, 1) := by decide +kernel
theorem dX0_follow_42 : decode cX0_follow 42 = .ok (.putfield 122, 3) := by decide +kernel
theorem dX0_follow_45 : decode cX0_follow 45 = .ok (.aload_n 0, 1) := by decide +kernel
theorem dX0_follow_46 : decode cX0_follow 46 = .ok (.dup, 1) := by decide +kernel
theorem dX0_follow_47 : decode cX0_follow 47 = .ok (.getfield 159, 3) := by decide +kernel
theorem dX0_follow_50 : decode cX0_follow 50 = .ok (.iconst 1, 1) := by decide +kernel
theorem dX0_follow_51 : decode cX0_follow 51 = .ok (.iadd, 1) := by decide +kernel
theorem dX0_follow_52 : decode cX0_follow 52 = .ok (.putfield 159, 3) := by decide +kernel
theorem dX0_follow_55 : decode cX0_follow 55 = .ok (.iconst 0, 1) := by decide +kernel
theorem dX0_follow_56 : decode cX0_follow 56 = .ok (.ireturn, 1) := by decide +kernel
theorem dX0_follow_57 : decode cX0_follow 57 = .ok (.iconst 1, 1) := by decide +kernel
theorem dX0_follow_58 : decode cX0_follow 58 = .ok (.ireturn, 1) := by decide +kernel
theorem dX0_follow_59 : decode cX0_follow 59 = .ok (.iconst 2, 1) := by decide +kernel
theorem dX0_follow_60 : decode cX0_follow 60 = .ok (.ireturn, 1) := by decide +kernel
theorem dX0_follow_61 : decode cX0_follow 61 = .ok (.aload_n 0, 1) := by decide +kernel
theorem dX0_follow_62 : decode cX0_follow 62 = .ok (.aload_n 0, 1) := by decide +kernel
theorem dX0_follow_63 : decode cX0_follow 63 = .ok (.getfield 44, 3) := by decide +kernel
theorem dX0_follow_66 : decode cX0_follow 66 = .ok (.iload_n 2, 1) := by decide +kernel
theorem dX0_follow_67 : decode cX0_follow 67 = .ok (.iload_n 3, 1) := by decide +kernel
theorem dX0_follow_68 : decode cX0_follow 68 = .ok (.invokevirtual 217, 3) := by decide +kernel
theorem dX0_follow_71 : decode cX0_follow 71 = .ok (.aload_n 0, 1) := by decide +kernel
theorem dX0_follow_72 : decode cX0_follow 72 = .ok (.iload_n 2, 1) := by decide +kernel
theorem dX0_follow_73 : decode cX0_follow 73 = .ok (.iload_n 3, 1) := by decide +kernel
theorem dX0_follow_74 : decode cX0_follow 74 = .ok (.invokevirtual 221, 3) := by decide +kernel
theorem dX0_follow_77 : decode cX0_follow 77 = .ok (.iconst 0, 1) := by decide +kernel
theorem dX0_follow_78 : decode cX0_follow 78 = .ok (.ireturn, 1) := by decide +kernel
theorem dX0_perform_0 : decode cX0_perform 0 = .ok (.aload_n 0, 1) := by decide +kernel
theorem dX0_perform_1 : decode cX0_perform 1 = .ok (.getfield 38, 3) := by decide +kernel
theorem dX0_perform_4 : decode cX0_perform 4 = .ok (.iload_n 1, 1) := by decide +kernel
theorem dX0_perform_5 : decode cX0_perform 5 = .ok (.dup2, 1) := by decide +kernel
theorem dX0_perform_6 : decode cX0_perform 6 = .ok (.iaload, 1) := by decide +kernel
theorem dX0_perform_7 : decode cX0_perform 7 = .ok (.iload_n 2, 1) := by decide +kernel
theorem dX0_perform_8 : decode cX0_perform 8 = .ok (.iadd, 1) := by decide +kernel
theorem dX0_perform_9 : decode cX0_perform 9 = .ok (.iastore, 1) := by decide +kernel
theorem dX0_perform_10 : decode cX0_perform 10 = .ok (.aload_n 0, 1) := by decide +kernel
theorem dX0_perform_11 : decode cX0_perform 11 = .ok (.dup, 1) := by decide +kernel
theorem dX0_perform_12 : decode cX0_perform 12 = .ok (.getfield 156, 3) := by decide +kernel
theorem dX0_perform_15 : decode cX0_perform 15 = .ok (.iconst 1, 1) := by decide +kernel
theorem dX0_perform_16 : decode cX0_perform 16 = .ok (.iadd, 1) := by decide +kernel
theorem dX0_perform_17 : decode cX0_perform 17 = .ok (.putfield 156, 3) := by decide +kernel
theorem dX0_perform_20 : decode cX0_perform 20 = .ok (.aload_n 0, 1) := by decide +kernel
theorem dX0_perform_21 : decode cX0_perform 21 = .ok (.aload_n 0, 1) := by decide +kernel
theorem dX0_perform_22 : decode cX0_perform 22 = .ok (.getfield 38, 3) := by decide +kernel
theorem dX0_perform_25 : decode cX0_perform 25 = .ok (.iload_n 1, 1) := by decide +kernel
theorem dX0_perform_26 : decode cX0_perform 26 = .ok (.iaload, 1) := by decide +kernel
theorem dX0_perform_27 : decode cX0_perform 27 = .ok (.putfield 122, 3) := by decide +kernel
theorem dX0_perform_30 : decode cX0_perform 30 = .ok (.return_, 1) := by decide +kernel
theorem dX0_forgetSpent_0 : decode cX0_forgetSpent 0 = .ok (.iconst 0, 1) := by decide +kernel
theorem dX0_forgetSpent_1 : decode cX0_forgetSpent 1 = .ok (.istore_n 1, 1) := by decide +kernel
theorem dX0_forgetSpent_2 : decode cX0_forgetSpent 2 = .ok (.iload_n 1, 1) := by decide +kernel
theorem dX0_forgetSpent_3 : decode cX0_forgetSpent 3 = .ok (.bipush 40, 2) := by decide +kernel
theorem dX0_forgetSpent_5 : decode cX0_forgetSpent 5 = .ok (.if_icmp .ge 16, 3) := by decide +kernel
theorem dX0_forgetSpent_8 : decode cX0_forgetSpent 8 = .ok (.aload_n 0, 1) := by decide +kernel
theorem dX0_forgetSpent_9 : decode cX0_forgetSpent 9 = .ok (.getfield 32, 3) := by decide +kernel
theorem dX0_forgetSpent_12 : decode cX0_forgetSpent 12 = .ok (.iload_n 1, 1) := by decide +kernel
theorem dX0_forgetSpent_13 : decode cX0_forgetSpent 13 = .ok (.iconst 0, 1) := by decide +kernel
theorem dX0_forgetSpent_14 : decode cX0_forgetSpent 14 = .ok (.bastore, 1) := by decide +kernel
theorem dX0_forgetSpent_15 : decode cX0_forgetSpent 15 = .ok (.iinc 1 1, 3) := by decide +kernel
theorem dX0_forgetSpent_18 : decode cX0_forgetSpent 18 = .ok (.goto (-16), 3) := by decide +kernel
theorem dX0_forgetSpent_21 : decode cX0_forgetSpent 21 = .ok (.return_, 1) := by decide +kernel
theorem dJ9_floorMod_0 : decode cJ9_floorMod 0 = .ok (.iload_n 0, 1) := by decide +kernel
theorem dJ9_floorMod_1 : decode cJ9_floorMod 1 = .ok (.iload_n 1, 1) := by decide +kernel
theorem dJ9_floorMod_2 : decode cJ9_floorMod 2 = .ok (.irem, 1) := by decide +kernel
theorem dJ9_floorMod_3 : decode cJ9_floorMod 3 = .ok (.istore_n 2, 1) := by decide +kernel
theorem dJ9_floorMod_4 : decode cJ9_floorMod 4 = .ok (.iload_n 0, 1) := by decide +kernel
theorem dJ9_floorMod_5 : decode cJ9_floorMod 5 = .ok (.iload_n 1, 1) := by decide +kernel
theorem dJ9_floorMod_6 : decode cJ9_floorMod 6 = .ok (.ixor, 1) := by decide +kernel
theorem dJ9_floorMod_7 : decode cJ9_floorMod 7 = .ok (.ifCond .ge 11, 3) := by decide +kernel
theorem dJ9_floorMod_10 : decode cJ9_floorMod 10 = .ok (.iload_n 2, 1) := by decide +kernel
theorem dJ9_floorMod_11 : decode cJ9_floorMod 11 = .ok (.ifCond .eq 7, 3) := by decide +kernel
theorem dJ9_floorMod_14 : decode cJ9_floorMod 14 = .ok (.iload_n 2, 1) := by decide +kernel
theorem dJ9_floorMod_15 : decode cJ9_floorMod 15 = .ok (.iload_n 1, 1) := by decide +kernel
theorem dJ9_floorMod_16 : decode cJ9_floorMod 16 = .ok (.iadd, 1) := by decide +kernel
theorem dJ9_floorMod_17 : decode cJ9_floorMod 17 = .ok (.ireturn, 1) := by decide +kernel
theorem dJ9_floorMod_18 : decode cJ9_floorMod 18 = .ok (.iload_n 2, 1) := by decide +kernel
theorem dJ9_floorMod_19 : decode cJ9_floorMod 19 = .ok (.ireturn, 1) := by decide +kernel
