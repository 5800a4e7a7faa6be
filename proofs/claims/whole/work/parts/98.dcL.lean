theorem dL_table_0 : decode cL_table 0 = .ok (.aload 5, 2) := by decide +kernel
theorem dL_table_2 : decode cL_table 2 = .ok (.iconst 0, 1) := by decide +kernel
theorem dL_table_3 : decode cL_table 3 = .ok (.aload_n 0, 1) := by decide +kernel
theorem dL_table_4 : decode cL_table 4 = .ok (.iload_n 1, 1) := by decide +kernel
theorem dL_table_5 : decode cL_table 5 = .ok (.iload_n 2, 1) := by decide +kernel
theorem dL_table_6 : decode cL_table 6 = .ok (.iload_n 3, 1) := by decide +kernel
theorem dL_table_7 : decode cL_table 7 = .ok (.iload 4, 2) := by decide +kernel
theorem dL_table_9 : decode cL_table 9 = .ok (.invokevirtual 7, 3) := by decide +kernel
theorem dL_table_12 : decode cL_table 12 = .ok (.i2l, 1) := by decide +kernel
theorem dL_table_13 : decode cL_table 13 = .ok (.lastore, 1) := by decide +kernel
theorem dL_table_14 : decode cL_table 14 = .ok (.goto 7, 3) := by decide +kernel
theorem dL_table_17 : decode cL_table 17 = .ok (.astore 6, 2) := by decide +kernel
theorem dL_table_19 : decode cL_table 19 = .ok (.iconst 1, 1) := by decide +kernel
theorem dL_table_20 : decode cL_table 20 = .ok (.ireturn, 1) := by decide +kernel
theorem dL_table_21 : decode cL_table 21 = .ok (.iconst 0, 1) := by decide +kernel
theorem dL_table_22 : decode cL_table 22 = .ok (.ireturn, 1) := by decide +kernel
theorem dL_policy_0 : decode cL_policy 0 = .ok (.aload 5, 2) := by decide +kernel
theorem dL_policy_2 : decode cL_policy 2 = .ok (.iconst 0, 1) := by decide +kernel
theorem dL_policy_3 : decode cL_policy 3 = .ok (.aload_n 0, 1) := by decide +kernel
theorem dL_policy_4 : decode cL_policy 4 = .ok (.iload_n 1, 1) := by decide +kernel
theorem dL_policy_5 : decode cL_policy 5 = .ok (.iload_n 2, 1) := by decide +kernel
theorem dL_policy_6 : decode cL_policy 6 = .ok (.iload_n 3, 1) := by decide +kernel
theorem dL_policy_7 : decode cL_policy 7 = .ok (.iload 4, 2) := by decide +kernel
theorem dL_policy_9 : decode cL_policy 9 = .ok (.invokevirtual 15, 3) := by decide +kernel
theorem dL_policy_12 : decode cL_policy 12 = .ok (.i2l, 1) := by decide +kernel
theorem dL_policy_13 : decode cL_policy 13 = .ok (.lastore, 1) := by decide +kernel
theorem dL_policy_14 : decode cL_policy 14 = .ok (.goto 19, 3) := by decide +kernel
theorem dL_policy_17 : decode cL_policy 17 = .ok (.astore 6, 2) := by decide +kernel
theorem dL_policy_19 : decode cL_policy 19 = .ok (.iconst 1, 1) := by decide +kernel
theorem dL_policy_20 : decode cL_policy 20 = .ok (.ireturn, 1) := by decide +kernel
theorem dL_policy_21 : decode cL_policy 21 = .ok (.astore 6, 2) := by decide +kernel
theorem dL_policy_23 : decode cL_policy 23 = .ok (.iconst 2, 1) := by decide +kernel
theorem dL_policy_24 : decode cL_policy 24 = .ok (.ireturn, 1) := by decide +kernel
theorem dL_policy_25 : decode cL_policy 25 = .ok (.astore 6, 2) := by decide +kernel
theorem dL_policy_27 : decode cL_policy 27 = .ok (.iconst 3, 1) := by decide +kernel
theorem dL_policy_28 : decode cL_policy 28 = .ok (.ireturn, 1) := by decide +kernel
theorem dL_policy_29 : decode cL_policy 29 = .ok (.astore 6, 2) := by decide +kernel
theorem dL_policy_31 : decode cL_policy 31 = .ok (.iconst 4, 1) := by decide +kernel
theorem dL_policy_32 : decode cL_policy 32 = .ok (.ireturn, 1) := by decide +kernel
theorem dL_policy_33 : decode cL_policy 33 = .ok (.iconst 0, 1) := by decide +kernel
theorem dL_policy_34 : decode cL_policy 34 = .ok (.ireturn, 1) := by decide +kernel
theorem dL_install_0 : decode cL_install 0 = .ok (.aload_n 2, 1) := by decide +kernel
theorem dL_install_1 : decode cL_install 1 = .ok (.iconst 0, 1) := by decide +kernel
theorem dL_install_2 : decode cL_install 2 = .ok (.aload_n 0, 1) := by decide +kernel
theorem dL_install_3 : decode cL_install 3 = .ok (.iload_n 1, 1) := by decide +kernel
theorem dL_install_4 : decode cL_install 4 = .ok (.invokevirtual 24, 3) := by decide +kernel
theorem dL_install_7 : decode cL_install 7 = .ok (.i2l, 1) := by decide +kernel
theorem dL_install_8 : decode cL_install 8 = .ok (.lastore, 1) := by decide +kernel
theorem dL_install_9 : decode cL_install 9 = .ok (.goto 6, 3) := by decide +kernel
theorem dL_install_12 : decode cL_install 12 = .ok (.astore_n 3, 1) := by decide +kernel
theorem dL_install_13 : decode cL_install 13 = .ok (.iconst 1, 1) := by decide +kernel
theorem dL_install_14 : decode cL_install 14 = .ok (.ireturn, 1) := by decide +kernel
theorem dL_install_15 : decode cL_install 15 = .ok (.iconst 0, 1) := by decide +kernel
theorem dL_install_16 : decode cL_install 16 = .ok (.ireturn, 1) := by decide +kernel
theorem dL_act_0 : decode cL_act 0 = .ok (.aload_n 3, 1) := by decide +kernel
theorem dL_act_1 : decode cL_act 1 = .ok (.iconst 0, 1) := by decide +kernel
theorem dL_act_2 : decode cL_act 2 = .ok (.aload_n 0, 1) := by decide +kernel
theorem dL_act_3 : decode cL_act 3 = .ok (.iload_n 1, 1) := by decide +kernel
theorem dL_act_4 : decode cL_act 4 = .ok (.iload_n 2, 1) := by decide +kernel
theorem dL_act_5 : decode cL_act 5 = .ok (.invokevirtual 28, 3) := by decide +kernel
theorem dL_act_8 : decode cL_act 8 = .ok (.i2l, 1) := by decide +kernel
theorem dL_act_9 : decode cL_act 9 = .ok (.lastore, 1) := by decide +kernel
theorem dL_act_10 : decode cL_act 10 = .ok (.goto 19, 3) := by decide +kernel
theorem dL_act_13 : decode cL_act 13 = .ok (.astore 4, 2) := by decide +kernel
theorem dL_act_15 : decode cL_act 15 = .ok (.iconst 1, 1) := by decide +kernel
theorem dL_act_16 : decode cL_act 16 = .ok (.ireturn, 1) := by decide +kernel
theorem dL_act_17 : decode cL_act 17 = .ok (.astore 4, 2) := by decide +kernel
theorem dL_act_19 : decode cL_act 19 = .ok (.iconst 2, 1) := by decide +kernel
theorem dL_act_20 : decode cL_act 20 = .ok (.ireturn, 1) := by decide +kernel
theorem dL_act_21 : decode cL_act 21 = .ok (.astore 4, 2) := by decide +kernel
theorem dL_act_23 : decode cL_act 23 = .ok (.iconst 3, 1) := by decide +kernel
theorem dL_act_24 : decode cL_act 24 = .ok (.ireturn, 1) := by decide +kernel
theorem dL_act_25 : decode cL_act 25 = .ok (.astore 4, 2) := by decide +kernel
theorem dL_act_27 : decode cL_act 27 = .ok (.iconst 4, 1) := by decide +kernel
theorem dL_act_28 : decode cL_act 28 = .ok (.ireturn, 1) := by decide +kernel
theorem dL_act_29 : decode cL_act 29 = .ok (.iconst 0, 1) := by decide +kernel
theorem dL_act_30 : decode cL_act 30 = .ok (.ireturn, 1) := by decide +kernel
theorem dL_ask_0 : decode cL_ask 0 = .ok (.aload_n 3, 1) := by decide +kernel
theorem dL_ask_1 : decode cL_ask 1 = .ok (.iconst 0, 1) := by decide +kernel
theorem dL_ask_2 : decode cL_ask 2 = .ok (.aload_n 0, 1) := by decide +kernel
theorem dL_ask_3 : decode cL_ask 3 = .ok (.iload_n 1, 1) := by decide +kernel
theorem dL_ask_4 : decode cL_ask 4 = .ok (.iload_n 2, 1) := by decide +kernel
theorem dL_ask_5 : decode cL_ask 5 = .ok (.invokevirtual 32, 3) := by decide +kernel
theorem dL_ask_8 : decode cL_ask 8 = .ok (.i2l, 1) := by decide +kernel
theorem dL_ask_9 : decode cL_ask 9 = .ok (.lastore, 1) := by decide +kernel
theorem dL_ask_10 : decode cL_ask 10 = .ok (.goto 7, 3) := by decide +kernel
theorem dL_ask_13 : decode cL_ask 13 = .ok (.astore 4, 2) := by decide +kernel
theorem dL_ask_15 : decode cL_ask 15 = .ok (.iconst 1, 1) := by decide +kernel
theorem dL_ask_16 : decode cL_ask 16 = .ok (.ireturn, 1) := by decide +kernel
theorem dL_ask_17 : decode cL_ask 17 = .ok (.iconst 0, 1) := by decide +kernel
theorem dL_ask_18 : decode cL_ask 18 = .ok (.ireturn, 1) := by decide +kernel
theorem dL_detail_0 : decode cL_detail 0 = .ok (.aload 4, 2) := by decide +kernel
theorem dL_detail_2 : decode cL_detail 2 = .ok (.iconst 0, 1) := by decide +kernel
theorem dL_detail_3 : decode cL_detail 3 = .ok (.aload_n 0, 1) := by decide +kernel
theorem dL_detail_4 : decode cL_detail 4 = .ok (.iload_n 1, 1) := by decide +kernel
theorem dL_detail_5 : decode cL_detail 5 = .ok (.iload_n 2, 1) := by decide +kernel
theorem dL_detail_6 : decode cL_detail 6 = .ok (.iload_n 3, 1) := by decide +kernel
theorem dL_detail_7 : decode cL_detail 7 = .ok (.invokevirtual 35, 3) := by decide +kernel
theorem dL_detail_10 : decode cL_detail 10 = .ok (.i2l, 1) := by decide +kernel
theorem dL_detail_11 : decode cL_detail 11 = .ok (.lastore, 1) := by decide +kernel
theorem dL_detail_12 : decode cL_detail 12 = .ok (.goto 11, 3) := by decide +kernel
theorem dL_detail_15 : decode cL_detail 15 = .ok (.astore 5, 2) := by decide +kernel
theorem dL_detail_17 : decode cL_detail 17 = .ok (.iconst 1, 1) := by decide +kernel
theorem dL_detail_18 : decode cL_detail 18 = .ok (.ireturn, 1) := by decide +kernel
theorem dL_detail_19 : decode cL_detail 19 = .ok (.astore 5, 2) := by decide +kernel
theorem dL_detail_21 : decode cL_detail 21 = .ok (.iconst 2, 1) := by decide +kernel
theorem dL_detail_22 : decode cL_detail 22 = .ok (.ireturn, 1) := by decide +kernel
theorem dL_detail_23 : decode cL_detail 23 = .ok (.iconst 0, 1) := by decide +kernel
theorem dL_detail_24 : decode cL_detail 24 = .ok (.ireturn, 1) := by decide +kernel
theorem dL_total_0 : decode cL_total 0 = .ok (.aload_n 2, 1) := by decide +kernel
theorem dL_total_1 : decode cL_total 1 = .ok (.iconst 0, 1) := by decide +kernel
theorem dL_total_2 : decode cL_total 2 = .ok (.aload_n 0, 1) := by decide +kernel
theorem dL_total_3 : decode cL_total 3 = .ok (.iload_n 1, 1) := by decide +kernel
theorem dL_total_4 : decode cL_total 4 = .ok (.invokevirtual 39, 3) := by decide +kernel
theorem dL_total_7 : decode cL_total 7 = .ok (.i2l, 1) := by decide +kernel
theorem dL_total_8 : decode cL_total 8 = .ok (.lastore, 1) := by decide +kernel
theorem dL_total_9 : decode cL_total 9 = .ok (.goto 6, 3) := by decide +kernel
theorem dL_total_12 : decode cL_total 12 = .ok (.astore_n 3, 1) := by decide +kernel
theorem dL_total_13 : decode cL_total 13 = .ok (.iconst 1, 1) := by decide +kernel
theorem dL_total_14 : decode cL_total 14 = .ok (.ireturn, 1) := by decide +kernel
theorem dL_total_15 : decode cL_total 15 = .ok (.iconst 0, 1) := by decide +kernel
theorem dL_total_16 : decode cL_total 16 = .ok (.ireturn, 1) := by decide +kernel
