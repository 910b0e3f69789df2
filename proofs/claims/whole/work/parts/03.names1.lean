theorem dL_act_0 : decode cL_act 0 = .ok (.aload 5, 2) := by decide +kernel
theorem dL_act_2 : decode cL_act 2 = .ok (.iconst 0, 1) := by decide +kernel
theorem dL_act_3 : decode cL_act 3 = .ok (.aload_n 0, 1) := by decide +kernel
theorem dL_act_4 : decode cL_act 4 = .ok (.iload_n 1, 1) := by decide +kernel
theorem dL_act_5 : decode cL_act 5 = .ok (.iload_n 2, 1) := by decide +kernel
theorem dL_act_6 : decode cL_act 6 = .ok (.iload_n 3, 1) := by decide +kernel
theorem dL_act_7 : decode cL_act 7 = .ok (.iload 4, 2) := by decide +kernel
theorem dL_act_9 : decode cL_act 9 = .ok (.invokevirtual 7, 3) := by decide +kernel
theorem dL_act_12 : decode cL_act 12 = .ok (.i2l, 1) := by decide +kernel
theorem dL_act_13 : decode cL_act 13 = .ok (.lastore, 1) := by decide +kernel
theorem dL_act_14 : decode cL_act 14 = .ok (.goto 11, 3) := by decide +kernel
theorem dL_act_17 : decode cL_act 17 = .ok (.astore 6, 2) := by decide +kernel
theorem dL_act_19 : decode cL_act 19 = .ok (.iconst 1, 1) := by decide +kernel
theorem dL_act_20 : decode cL_act 20 = .ok (.ireturn, 1) := by decide +kernel
theorem dL_act_21 : decode cL_act 21 = .ok (.astore 6, 2) := by decide +kernel
theorem dL_act_23 : decode cL_act 23 = .ok (.iconst 2, 1) := by decide +kernel
theorem dL_act_24 : decode cL_act 24 = .ok (.ireturn, 1) := by decide +kernel
theorem dL_act_25 : decode cL_act 25 = .ok (.iconst 0, 1) := by decide +kernel
theorem dL_act_26 : decode cL_act 26 = .ok (.ireturn, 1) := by decide +kernel
theorem dL_special_0 : decode cL_special 0 = .ok (.aload_n 3, 1) := by decide +kernel
theorem dL_special_1 : decode cL_special 1 = .ok (.iconst 0, 1) := by decide +kernel
theorem dL_special_2 : decode cL_special 2 = .ok (.aload_n 0, 1) := by decide +kernel
theorem dL_special_3 : decode cL_special 3 = .ok (.iload_n 1, 1) := by decide +kernel
theorem dL_special_4 : decode cL_special 4 = .ok (.iload_n 2, 1) := by decide +kernel
theorem dL_special_5 : decode cL_special 5 = .ok (.invokevirtual 17, 3) := by decide +kernel
theorem dL_special_8 : decode cL_special 8 = .ok (.ifCond .eq 7, 3) := by decide +kernel
theorem dL_special_11 : decode cL_special 11 = .ok (.lconst 1, 1) := by decide +kernel
theorem dL_special_12 : decode cL_special 12 = .ok (.goto 4, 3) := by decide +kernel
theorem dL_special_15 : decode cL_special 15 = .ok (.lconst 0, 1) := by decide +kernel
theorem dL_special_16 : decode cL_special 16 = .ok (.lastore, 1) := by decide +kernel
theorem dL_special_17 : decode cL_special 17 = .ok (.goto 15, 3) := by decide +kernel
theorem dL_special_20 : decode cL_special 20 = .ok (.astore 4, 2) := by decide +kernel
theorem dL_special_22 : decode cL_special 22 = .ok (.iconst 1, 1) := by decide +kernel
theorem dL_special_23 : decode cL_special 23 = .ok (.ireturn, 1) := by decide +kernel
theorem dL_special_24 : decode cL_special 24 = .ok (.astore 4, 2) := by decide +kernel
theorem dL_special_26 : decode cL_special 26 = .ok (.iconst 2, 1) := by decide +kernel
theorem dL_special_27 : decode cL_special 27 = .ok (.ireturn, 1) := by decide +kernel
theorem dL_special_28 : decode cL_special 28 = .ok (.astore 4, 2) := by decide +kernel
theorem dL_special_30 : decode cL_special 30 = .ok (.iconst 3, 1) := by decide +kernel
theorem dL_special_31 : decode cL_special 31 = .ok (.ireturn, 1) := by decide +kernel
theorem dL_special_32 : decode cL_special 32 = .ok (.iconst 0, 1) := by decide +kernel
theorem dL_special_33 : decode cL_special 33 = .ok (.ireturn, 1) := by decide +kernel
theorem dL_standard_0 : decode cL_standard 0 = .ok (.aload_n 3, 1) := by decide +kernel
theorem dL_standard_1 : decode cL_standard 1 = .ok (.iconst 0, 1) := by decide +kernel
theorem dL_standard_2 : decode cL_standard 2 = .ok (.aload_n 0, 1) := by decide +kernel
theorem dL_standard_3 : decode cL_standard 3 = .ok (.iload_n 1, 1) := by decide +kernel
theorem dL_standard_4 : decode cL_standard 4 = .ok (.iload_n 2, 1) := by decide +kernel
theorem dL_standard_5 : decode cL_standard 5 = .ok (.invokevirtual 23, 3) := by decide +kernel
theorem dL_standard_8 : decode cL_standard 8 = .ok (.i2l, 1) := by decide +kernel
theorem dL_standard_9 : decode cL_standard 9 = .ok (.lastore, 1) := by decide +kernel
theorem dL_standard_10 : decode cL_standard 10 = .ok (.goto 11, 3) := by decide +kernel
theorem dL_standard_13 : decode cL_standard 13 = .ok (.astore 4, 2) := by decide +kernel
theorem dL_standard_15 : decode cL_standard 15 = .ok (.iconst 1, 1) := by decide +kernel
theorem dL_standard_16 : decode cL_standard 16 = .ok (.ireturn, 1) := by decide +kernel
theorem dL_standard_17 : decode cL_standard 17 = .ok (.astore 4, 2) := by decide +kernel
theorem dL_standard_19 : decode cL_standard 19 = .ok (.iconst 2, 1) := by decide +kernel
theorem dL_standard_20 : decode cL_standard 20 = .ok (.ireturn, 1) := by decide +kernel
theorem dL_standard_21 : decode cL_standard 21 = .ok (.iconst 0, 1) := by decide +kernel
theorem dL_standard_22 : decode cL_standard 22 = .ok (.ireturn, 1) := by decide +kernel
theorem dL_withdraw_0 : decode cL_withdraw 0 = .ok (.aload_n 3, 1) := by decide +kernel
theorem dL_withdraw_1 : decode cL_withdraw 1 = .ok (.iconst 0, 1) := by decide +kernel
theorem dL_withdraw_2 : decode cL_withdraw 2 = .ok (.aload_n 0, 1) := by decide +kernel
theorem dL_withdraw_3 : decode cL_withdraw 3 = .ok (.iload_n 1, 1) := by decide +kernel
theorem dL_withdraw_4 : decode cL_withdraw 4 = .ok (.iload_n 2, 1) := by decide +kernel
theorem dL_withdraw_5 : decode cL_withdraw 5 = .ok (.invokevirtual 27, 3) := by decide +kernel
theorem dL_withdraw_8 : decode cL_withdraw 8 = .ok (.i2l, 1) := by decide +kernel
theorem dL_withdraw_9 : decode cL_withdraw 9 = .ok (.lastore, 1) := by decide +kernel
theorem dL_withdraw_10 : decode cL_withdraw 10 = .ok (.goto 11, 3) := by decide +kernel
theorem dL_withdraw_13 : decode cL_withdraw 13 = .ok (.astore 4, 2) := by decide +kernel
theorem dL_withdraw_15 : decode cL_withdraw 15 = .ok (.iconst 1, 1) := by decide +kernel
theorem dL_withdraw_16 : decode cL_withdraw 16 = .ok (.ireturn, 1) := by decide +kernel
theorem dL_withdraw_17 : decode cL_withdraw 17 = .ok (.astore 4, 2) := by decide +kernel
theorem dL_withdraw_19 : decode cL_withdraw 19 = .ok (.iconst 2, 1) := by decide +kernel
theorem dL_withdraw_20 : decode cL_withdraw 20 = .ok (.ireturn, 1) := by decide +kernel
theorem dL_withdraw_21 : decode cL_withdraw 21 = .ok (.iconst 0, 1) := by decide +kernel
theorem dL_withdraw_22 : decode cL_withdraw 22 = .ok (.ireturn, 1) := by decide +kernel
theorem dL_restrict_0 : decode cL_restrict 0 = .ok (.aload_n 3, 1) := by decide +kernel
theorem dL_restrict_1 : decode cL_restrict 1 = .ok (.iconst 0, 1) := by decide +kernel
theorem dL_restrict_2 : decode cL_restrict 2 = .ok (.aload_n 0, 1) := by decide +kernel
theorem dL_restrict_3 : decode cL_restrict 3 = .ok (.iload_n 1, 1) := by decide +kernel
theorem dL_restrict_4 : decode cL_restrict 4 = .ok (.iload_n 2, 1) := by decide +kernel
theorem dL_restrict_5 : decode cL_restrict 5 = .ok (.invokevirtual 30, 3) := by decide +kernel
theorem dL_restrict_8 : decode cL_restrict 8 = .ok (.i2l, 1) := by decide +kernel
theorem dL_restrict_9 : decode cL_restrict 9 = .ok (.lastore, 1) := by decide +kernel
theorem dL_restrict_10 : decode cL_restrict 10 = .ok (.goto 11, 3) := by decide +kernel
theorem dL_restrict_13 : decode cL_restrict 13 = .ok (.astore 4, 2) := by decide +kernel
theorem dL_restrict_15 : decode cL_restrict 15 = .ok (.iconst 1, 1) := by decide +kernel
theorem dL_restrict_16 : decode cL_restrict 16 = .ok (.ireturn, 1) := by decide +kernel
theorem dL_restrict_17 : decode cL_restrict 17 = .ok (.astore 4, 2) := by decide +kernel
theorem dL_restrict_19 : decode cL_restrict 19 = .ok (.iconst 2, 1) := by decide +kernel
theorem dL_restrict_20 : decode cL_restrict 20 = .ok (.ireturn, 1) := by decide +kernel
theorem dL_restrict_21 : decode cL_restrict 21 = .ok (.iconst 0, 1) := by decide +kernel
theorem dL_restrict_22 : decode cL_restrict 22 = .ok (.ireturn, 1) := by decide +kernel
theorem dL_product_0 : decode cL_product 0 = .ok (.aload_n 2, 1) := by decide +kernel
theorem dL_product_1 : decode cL_product 1 = .ok (.iconst 0, 1) := by decide +kernel
theorem dL_product_2 : decode cL_product 2 = .ok (.aload_n 0, 1) := by decide +kernel
theorem dL_product_3 : decode cL_product 3 = .ok (.iload_n 1, 1) := by decide +kernel
theorem dL_product_4 : decode cL_product 4 = .ok (.invokevirtual 33, 3) := by decide +kernel
theorem dL_product_7 : decode cL_product 7 = .ok (.i2l, 1) := by decide +kernel
theorem dL_product_8 : decode cL_product 8 = .ok (.lastore, 1) := by decide +kernel
theorem dL_product_9 : decode cL_product 9 = .ok (.goto 9, 3) := by decide +kernel
theorem dL_product_12 : decode cL_product 12 = .ok (.astore_n 3, 1) := by decide +kernel
theorem dL_product_13 : decode cL_product 13 = .ok (.iconst 1, 1) := by decide +kernel
theorem dL_product_14 : decode cL_product 14 = .ok (.ireturn, 1) := by decide +kernel
theorem dL_product_15 : decode cL_product 15 = .ok (.astore_n 3, 1) := by decide +kernel
theorem dL_product_16 : decode cL_product 16 = .ok (.iconst 2, 1) := by decide +kernel
theorem dL_product_17 : decode cL_product 17 = .ok (.ireturn, 1) := by decide +kernel
theorem dL_product_18 : decode cL_product 18 = .ok (.iconst 0, 1) := by decide +kernel
theorem dL_product_19 : decode cL_product 19 = .ok (.ireturn, 1) := by decide +kernel
theorem dL_change_0 : decode cL_change 0 = .ok (.aload_n 3, 1) := by decide +kernel
theorem dL_change_1 : decode cL_change 1 = .ok (.iconst 0, 1) := by decide +kernel
theorem dL_change_2 : decode cL_change 2 = .ok (.aload_n 0, 1) := by decide +kernel
theorem dL_change_3 : decode cL_change 3 = .ok (.iload_n 1, 1) := by decide +kernel
theorem dL_change_4 : decode cL_change 4 = .ok (.iload_n 2, 1) := by decide +kernel
theorem dL_change_5 : decode cL_change 5 = .ok (.invokevirtual 37, 3) := by decide +kernel
theorem dL_change_8 : decode cL_change 8 = .ok (.i2l, 1) := by decide +kernel
theorem dL_change_9 : decode cL_change 9 = .ok (.lastore, 1) := by decide +kernel
theorem dL_change_10 : decode cL_change 10 = .ok (.goto 11, 3) := by decide +kernel
theorem dL_change_13 : decode cL_change 13 = .ok (.astore 4, 2) := by decide +kernel
theorem dL_change_15 : decode cL_change 15 = .ok (.iconst 1, 1) := by decide +kernel
theorem dL_change_16 : decode cL_change 16 = .ok (.ireturn, 1) := by decide +kernel
theorem dL_change_17 : decode cL_change 17 = .ok (.astore 4, 2) := by decide +kernel
theorem dL_change_19 : decode cL_change 19 = .ok (.iconst 2, 1) := by decide +kernel
theorem dL_change_20 : decode cL_change 20 = .ok (.ireturn, 1) := by decide +kernel
theorem dL_change_21 : decode cL_change 21 = .ok (.iconst 0, 1) := by decide +kernel
theorem dL_change_22 : decode cL_change 22 = .ok (.ireturn, 1) := by decide +kernel
theorem dL_risk_0 : decode cL_risk 0 = .ok (.aload 5, 2) := by decide +kernel
theorem dL_risk_2 : decode cL_risk 2 = .ok (.iconst 0, 1) := by decide +kernel
theorem dL_risk_3 : decode cL_risk 3 = .ok (.aload_n 0, 1) := by decide +kernel
theorem dL_risk_4 : decode cL_risk 4 = .ok (.iload_n 1, 1) := by decide +kernel
theorem dL_risk_5 : decode cL_risk 5 = .ok (.iload_n 2, 1) := by decide +kernel
theorem dL_risk_6 : decode cL_risk 6 = .ok (.iload_n 3, 1) := by decide +kernel
theorem dL_risk_7 : decode cL_risk 7 = .ok (.iload 4, 2) := by decide +kernel
theorem dL_risk_9 : decode cL_risk 9 = .ok (.invokevirtual 40, 3) := by decide +kernel
theorem dL_risk_12 : decode cL_risk 12 = .ok (.i2l, 1) := by decide +kernel
theorem dL_risk_13 : decode cL_risk 13 = .ok (.lastore, 1) := by decide +kernel
theorem dL_risk_14 : decode cL_risk 14 = .ok (.goto 11, 3) := by decide +kernel
theorem dL_risk_17 : decode cL_risk 17 = .ok (.astore 6, 2) := by decide +kernel
theorem dL_risk_19 : decode cL_risk 19 = .ok (.iconst 1, 1) := by decide +kernel
theorem dL_risk_20 : decode cL_risk 20 = .ok (.ireturn, 1) := by decide +kernel
theorem dL_risk_21 : decode cL_risk 21 = .ok (.astore 6, 2) := by decide +kernel
theorem dL_risk_23 : decode cL_risk 23 = .ok (.iconst 2, 1) := by decide +kernel
theorem dL_risk_24 : decode cL_risk 24 = .ok (.ireturn, 1) := by decide +kernel
theorem dL_risk_25 : decode cL_risk 25 = .ok (.iconst 0, 1) := by decide +kernel
theorem dL_risk_26 : decode cL_risk 26 = .ok (.ireturn, 1) := by decide +kernel
theorem dL_follow_0 : decode cL_follow 0 = .ok (.aload 4, 2) := by decide +kernel
theorem dL_follow_2 : decode cL_follow 2 = .ok (.iconst 0, 1) := by decide +kernel
theorem dL_follow_3 : decode cL_follow 3 = .ok (.aload_n 0, 1) := by decide +kernel
theorem dL_follow_4 : decode cL_follow 4 = .ok (.iload_n 1, 1) := by decide +kernel
theorem dL_follow_5 : decode cL_follow 5 = .ok (.iload_n 2, 1) := by decide +kernel
theorem dL_follow_6 : decode cL_follow 6 = .ok (.iload_n 3, 1) := by decide +kernel
theorem dL_follow_7 : decode cL_follow 7 = .ok (.invokevirtual 43, 3) := by decide +kernel
theorem dL_follow_10 : decode cL_follow 10 = .ok (.i2l, 1) := by decide +kernel
theorem dL_follow_11 : decode cL_follow 11 = .ok (.lastore, 1) := by decide +kernel
theorem dL_follow_12 : decode cL_follow 12 = .ok (.goto 11, 3) := by decide +kernel
theorem dL_follow_15 : decode cL_follow 15 = .ok (.astore 5, 2) := by decide +kernel
theorem dL_follow_17 : decode cL_follow 17 = .ok (.iconst 1, 1) := by decide +kernel
theorem dL_follow_18 : decode cL_follow 18 = .ok (.ireturn, 1) := by decide +kernel
theorem dL_follow_19 : decode cL_follow 19 = .ok (.astore 5, 2) := by decide +kernel
theorem dL_follow_21 : decode cL_follow 21 = .ok (.iconst 2, 1) := by decide +kernel
theorem dL_follow_22 : decode cL_follow 22 = .ok (.ireturn, 1) := by decide +kernel
theorem dL_follow_23 : decode cL_follow 23 = .ok (.iconst 0, 1) := by decide +kernel
theorem dL_follow_24 : decode cL_follow 24 = .ok (.ireturn, 1) := by decide +kernel
theorem dL_prove_0 : decode cL_prove 0 = .ok (.aload_n 3, 1) := by decide +kernel
theorem dL_prove_1 : decode cL_prove 1 = .ok (.iconst 0, 1) := by decide +kernel
theorem dL_prove_2 : decode cL_prove 2 = .ok (.aload_n 0, 1) := by decide +kernel
theorem dL_prove_3 : decode cL_prove 3 = .ok (.iload_n 1, 1) := by decide +kernel
theorem dL_prove_4 : decode cL_prove 4 = .ok (.iload_n 2, 1) := by decide +kernel
theorem dL_prove_5 : decode cL_prove 5 = .ok (.invokevirtual 47, 3) := by decide +kernel
theorem dL_prove_8 : decode cL_prove 8 = .ok (.i2l, 1) := by decide +kernel
theorem dL_prove_9 : decode cL_prove 9 = .ok (.lastore, 1) := by decide +kernel
theorem dL_prove_10 : decode cL_prove 10 = .ok (.goto 11, 3) := by decide +kernel
theorem dL_prove_13 : decode cL_prove 13 = .ok (.astore 4, 2) := by decide +kernel
theorem dL_prove_15 : decode cL_prove 15 = .ok (.iconst 1, 1) := by decide +kernel
theorem dL_prove_16 : decode cL_prove 16 = .ok (.ireturn, 1) := by decide +kernel
theorem dL_prove_17 : decode cL_prove 17 = .ok (.astore 4, 2) := by decide +kernel
theorem dL_prove_19 : decode cL_prove 19 = .ok (.iconst 2, 1) := by decide +kernel
theorem dL_prove_20 : decode cL_prove 20 = .ok (.ireturn, 1) := by decide +kernel
theorem dL_prove_21 : decode cL_prove 21 = .ok (.iconst 0, 1) := by decide +kernel
theorem dL_prove_22 : decode cL_prove 22 = .ok (.ireturn, 1) := by decide +kernel
theorem dL_declare_0 : decode cL_declare 0 = .ok (.aload_n 2, 1) := by decide +kernel
theorem dL_declare_1 : decode cL_declare 1 = .ok (.iconst 0, 1) := by decide +kernel
theorem dL_declare_2 : decode cL_declare 2 = .ok (.aload_n 0, 1) := by decide +kernel
theorem dL_declare_3 : decode cL_declare 3 = .ok (.iload_n 1, 1) := by decide +kernel
theorem dL_declare_4 : decode cL_declare 4 = .ok (.invokevirtual 50, 3) := by decide +kernel
theorem dL_declare_7 : decode cL_declare 7 = .ok (.i2l, 1) := by decide +kernel
theorem dL_declare_8 : decode cL_declare 8 = .ok (.lastore, 1) := by decide +kernel
theorem dL_declare_9 : decode cL_declare 9 = .ok (.goto 9, 3) := by decide +kernel
theorem dL_declare_12 : decode cL_declare 12 = .ok (.astore_n 3, 1) := by decide +kernel
theorem dL_declare_13 : decode cL_declare 13 = .ok (.iconst 1, 1) := by decide +kernel
theorem dL_declare_14 : decode cL_declare 14 = .ok (.ireturn, 1) := by decide +kernel
theorem dL_declare_15 : decode cL_declare 15 = .ok (.astore_n 3, 1) := by decide +kernel
theorem dL_declare_16 : decode cL_declare 16 = .ok (.iconst 2, 1) := by decide +kernel
theorem dL_declare_17 : decode cL_declare 17 = .ok (.ireturn, 1) := by decide +kernel
theorem dL_declare_18 : decode cL_declare 18 = .ok (.iconst 0, 1) := by decide +kernel
theorem dL_declare_19 : decode cL_declare 19 = .ok (.ireturn, 1) := by decide +kernel
theorem dL_body_0 : decode cL_body 0 = .ok (.aload_n 2, 1) := by decide +kernel
theorem dL_body_1 : decode cL_body 1 = .ok (.iconst 0, 1) := by decide +kernel
theorem dL_body_2 : decode cL_body 2 = .ok (.aload_n 0, 1) := by decide +kernel
theorem dL_body_3 : decode cL_body 3 = .ok (.iload_n 1, 1) := by decide +kernel
theorem dL_body_4 : decode cL_body 4 = .ok (.invokevirtual 53, 3) := by decide +kernel
theorem dL_body_7 : decode cL_body 7 = .ok (.i2l, 1) := by decide +kernel
theorem dL_body_8 : decode cL_body 8 = .ok (.lastore, 1) := by decide +kernel
theorem dL_body_9 : decode cL_body 9 = .ok (.goto 9, 3) := by decide +kernel
theorem dL_body_12 : decode cL_body 12 = .ok (.astore_n 3, 1) := by decide +kernel
theorem dL_body_13 : decode cL_body 13 = .ok (.iconst 1, 1) := by decide +kernel
theorem dL_body_14 : decode cL_body 14 = .ok (.ireturn, 1) := by decide +kernel
theorem dL_body_15 : decode cL_body 15 = .ok (.astore_n 3, 1) := by decide +kernel
theorem dL_body_16 : decode cL_body 16 = .ok (.iconst 2, 1) := by decide +kernel
theorem dL_body_17 : decode cL_body 17 = .ok (.ireturn, 1) := by decide +kernel
theorem dL_body_18 : decode cL_body 18 = .ok (.iconst 0, 1) := by decide +kernel
theorem dL_body_19 : decode cL_body 19 = .ok (.ireturn, 1) := by decide +kernel
theorem dL_suspend_0 : decode cL_suspend 0 = .ok (.aload_n 3, 1) := by decide +kernel
theorem dL_suspend_1 : decode cL_suspend 1 = .ok (.iconst 0, 1) := by decide +kernel
theorem dL_suspend_2 : decode cL_suspend 2 = .ok (.aload_n 0, 1) := by decide +kernel
theorem dL_suspend_3 : decode cL_suspend 3 = .ok (.iload_n 1, 1) := by decide +kernel
theorem dL_suspend_4 : decode cL_suspend 4 = .ok (.iload_n 2, 1) := by decide +kernel
theorem dL_suspend_5 : decode cL_suspend 5 = .ok (.invokevirtual 56, 3) := by decide +kernel
theorem dL_suspend_8 : decode cL_suspend 8 = .ok (.ifCond .eq 7, 3) := by decide +kernel
theorem dL_suspend_11 : decode cL_suspend 11 = .ok (.lconst 1, 1) := by decide +kernel
theorem dL_suspend_12 : decode cL_suspend 12 = .ok (.goto 4, 3) := by decide +kernel
theorem dL_suspend_15 : decode cL_suspend 15 = .ok (.lconst 0, 1) := by decide +kernel
theorem dL_suspend_16 : decode cL_suspend 16 = .ok (.lastore, 1) := by decide +kernel
theorem dL_suspend_17 : decode cL_suspend 17 = .ok (.goto 7, 3) := by decide +kernel
theorem dL_suspend_20 : decode cL_suspend 20 = .ok (.astore 4, 2) := by decide +kernel
theorem dL_suspend_22 : decode cL_suspend 22 = .ok (.iconst 1, 1) := by decide +kernel
theorem dL_suspend_23 : decode cL_suspend 23 = .ok (.ireturn, 1) := by decide +kernel
theorem dL_suspend_24 : decode cL_suspend 24 = .ok (.iconst 0, 1) := by decide +kernel
theorem dL_suspend_25 : decode cL_suspend 25 = .ok (.ireturn, 1) := by decide +kernel
theorem dL_certify_0 : decode cL_certify 0 = .ok (.aload 4, 2) := by decide +kernel
theorem dL_certify_2 : decode cL_certify 2 = .ok (.iconst 0, 1) := by decide +kernel
theorem dL_certify_3 : decode cL_certify 3 = .ok (.aload_n 0, 1) := by decide +kernel
theorem dL_certify_4 : decode cL_certify 4 = .ok (.iload_n 1, 1) := by decide +kernel
theorem dL_certify_5 : decode cL_certify 5 = .ok (.iload_n 2, 1) := by decide +kernel
theorem dL_certify_6 : decode cL_certify 6 = .ok (.iload_n 3, 1) := by decide +kernel
theorem dL_certify_7 : decode cL_certify 7 = .ok (.invokevirtual 60, 3) := by decide +kernel
theorem dL_certify_10 : decode cL_certify 10 = .ok (.i2l, 1) := by decide +kernel
theorem dL_certify_11 : decode cL_certify 11 = .ok (.lastore, 1) := by decide +kernel
theorem dL_certify_12 : decode cL_certify 12 = .ok (.goto 15, 3) := by decide +kernel
theorem dL_certify_15 : decode cL_certify 15 = .ok (.astore 5, 2) := by decide +kernel
theorem dL_certify_17 : decode cL_certify 17 = .ok (.iconst 1, 1) := by decide +kernel
theorem dL_certify_18 : decode cL_certify 18 = .ok (.ireturn, 1) := by decide +kernel
theorem dL_certify_19 : decode cL_certify 19 = .ok (.astore 5, 2) := by decide +kernel
theorem dL_certify_21 : decode cL_certify 21 = .ok (.iconst 2, 1) := by decide +kernel
theorem dL_certify_22 : decode cL_certify 22 = .ok (.ireturn, 1) := by decide +kernel
theorem dL_certify_23 : decode cL_certify 23 = .ok (.astore 5, 2) := by decide +kernel
theorem dL_certify_25 : decode cL_certify 25 = .ok (.iconst 3, 1) := by decide +kernel
theorem dL_certify_26 : decode cL_certify 26 = .ok (.ireturn, 1) := by decide +kernel
theorem dL_certify_27 : decode cL_certify 27 = .ok (.iconst 0, 1) := by decide +kernel
theorem dL_certify_28 : decode cL_certify 28 = .ok (.ireturn, 1) := by decide +kernel
theorem dL_transfer_0 : decode cL_transfer 0 = .ok (.aload_n 3, 1) := by decide +kernel
theorem dL_transfer_1 : decode cL_transfer 1 = .ok (.iconst 0, 1) := by decide +kernel
theorem dL_transfer_2 : decode cL_transfer 2 = .ok (.aload_n 0, 1) := by decide +kernel
theorem dL_transfer_3 : decode cL_transfer 3 = .ok (.iload_n 1, 1) := by decide +kernel
theorem dL_transfer_4 : decode cL_transfer 4 = .ok (.iload_n 2, 1) := by decide +kernel
theorem dL_transfer_5 : decode cL_transfer 5 = .ok (.invokevirtual 63, 3) := by decide +kernel
theorem dL_transfer_8 : decode cL_transfer 8 = .ok (.i2l, 1) := by decide +kernel
theorem dL_transfer_9 : decode cL_transfer 9 = .ok (.lastore, 1) := by decide +kernel
theorem dL_transfer_10 : decode cL_transfer 10 = .ok (.goto 11, 3) := by decide +kernel
theorem dL_transfer_13 : decode cL_transfer 13 = .ok (.astore 4, 2) := by decide +kernel
theorem dL_transfer_15 : decode cL_transfer 15 = .ok (.iconst 1, 1) := by decide +kernel
theorem dL_transfer_16 : decode cL_transfer 16 = .ok (.ireturn, 1) := by decide +kernel
theorem dL_transfer_17 : decode cL_transfer 17 = .ok (.astore 4, 2) := by decide +kernel
theorem dL_transfer_19 : decode cL_transfer 19 = .ok (.iconst 2, 1) := by decide +kernel
theorem dL_transfer_20 : decode cL_transfer 20 = .ok (.ireturn, 1) := by decide +kernel
theorem dL_transfer_21 : decode cL_transfer 21 = .ok (.iconst 0, 1) := by decide +kernel
theorem dL_transfer_22 : decode cL_transfer 22 = .ok (.ireturn, 1) := by decide +kernel
theorem dL_visit_0 : decode cL_visit 0 = .ok (.aload_n 3, 1) := by decide +kernel
theorem dL_visit_1 : decode cL_visit 1 = .ok (.iconst 0, 1) := by decide +kernel
theorem dL_visit_2 : decode cL_visit 2 = .ok (.aload_n 0, 1) := by decide +kernel
theorem dL_visit_3 : decode cL_visit 3 = .ok (.iload_n 1, 1) := by decide +kernel
theorem dL_visit_4 : decode cL_visit 4 = .ok (.iload_n 2, 1) := by decide +kernel
theorem dL_visit_5 : decode cL_visit 5 = .ok (.invokevirtual 66, 3) := by decide +kernel
theorem dL_visit_8 : decode cL_visit 8 = .ok (.ifCond .eq 7, 3) := by decide +kernel
theorem dL_visit_11 : decode cL_visit 11 = .ok (.lconst 1, 1) := by decide +kernel
theorem dL_visit_12 : decode cL_visit 12 = .ok (.goto 4, 3) := by decide +kernel
theorem dL_visit_15 : decode cL_visit 15 = .ok (.lconst 0, 1) := by decide +kernel
theorem dL_visit_16 : decode cL_visit 16 = .ok (.lastore, 1) := by decide +kernel
theorem dL_visit_17 : decode cL_visit 17 = .ok (.goto 7, 3) := by decide +kernel
theorem dL_visit_20 : decode cL_visit 20 = .ok (.astore 4, 2) := by decide +kernel
theorem dL_visit_22 : decode cL_visit 22 = .ok (.iconst 1, 1) := by decide +kernel
theorem dL_visit_23 : decode cL_visit 23 = .ok (.ireturn, 1) := by decide +kernel
theorem dL_visit_24 : decode cL_visit 24 = .ok (.iconst 0, 1) := by decide +kernel
theorem dL_visit_25 : decode cL_visit 25 = .ok (.ireturn, 1) := by decide +kernel
theorem dL_place_0 : decode cL_place 0 = .ok (.aload_n 3, 1) := by decide +kernel
theorem dL_place_1 : decode cL_place 1 = .ok (.iconst 0, 1) := by decide +kernel
theorem dL_place_2 : decode cL_place 2 = .ok (.aload_n 0, 1) := by decide +kernel
theorem dL_place_3 : decode cL_place 3 = .ok (.iload_n 1, 1) := by decide +kernel
theorem dL_place_4 : decode cL_place 4 = .ok (.iload_n 2, 1) := by decide +kernel
theorem dL_place_5 : decode cL_place 5 = .ok (.invokevirtual 69, 3) := by decide +kernel
theorem dL_place_8 : decode cL_place 8 = .ok (.i2l, 1) := by decide +kernel
theorem dL_place_9 : decode cL_place 9 = .ok (.lastore, 1) := by decide +kernel
theorem dL_place_10 : decode cL_place 10 = .ok (.goto 15, 3) := by decide +kernel
theorem dL_place_13 : decode cL_place 13 = .ok (.astore 4, 2) := by decide +kernel
theorem dL_place_15 : decode cL_place 15 = .ok (.iconst 1, 1) := by decide +kernel
theorem dL_place_16 : decode cL_place 16 = .ok (.ireturn, 1) := by decide +kernel
theorem dL_place_17 : decode cL_place 17 = .ok (.astore 4, 2) := by decide +kernel
theorem dL_place_19 : decode cL_place 19 = .ok (.iconst 2, 1) := by decide +kernel
theorem dL_place_20 : decode cL_place 20 = .ok (.ireturn, 1) := by decide +kernel
theorem dL_place_21 : decode cL_place 21 = .ok (.astore 4, 2) := by decide +kernel
theorem dL_place_23 : decode cL_place 23 = .ok (.iconst 3, 1) := by decide +kernel
theorem dL_place_24 : decode cL_place 24 = .ok (.ireturn, 1) := by decide +kernel
theorem dL_place_25 : decode cL_place 25 = .ok (.iconst 0, 1) := by decide +kernel
theorem dL_place_26 : decode cL_place 26 = .ok (.ireturn, 1) := by decide +kernel
theorem dL_post_0 : decode cL_post 0 = .ok (.aload_n 3, 1) := by decide +kernel
theorem dL_post_1 : decode cL_post 1 = .ok (.iconst 0, 1) := by decide +kernel
theorem dL_post_2 : decode cL_post 2 = .ok (.aload_n 0, 1) := by decide +kernel
theorem dL_post_3 : decode cL_post 3 = .ok (.iload_n 1, 1) := by decide +kernel
theorem dL_post_4 : decode cL_post 4 = .ok (.iload_n 2, 1) := by decide +kernel
theorem dL_post_5 : decode cL_post 5 = .ok (.invokevirtual 72, 3) := by decide +kernel
theorem dL_post_8 : decode cL_post 8 = .ok (.i2l, 1) := by decide +kernel
theorem dL_post_9 : decode cL_post 9 = .ok (.lastore, 1) := by decide +kernel
theorem dL_post_10 : decode cL_post 10 = .ok (.goto 15, 3) := by decide +kernel
theorem dL_post_13 : decode cL_post 13 = .ok (.astore 4, 2) := by decide +kernel
theorem dL_post_15 : decode cL_post 15 = .ok (.iconst 1, 1) := by decide +kernel
theorem dL_post_16 : decode cL_post 16 = .ok (.ireturn, 1) := by decide +kernel
theorem dL_post_17 : decode cL_post 17 = .ok (.astore 4, 2) := by decide +kernel
theorem dL_post_19 : decode cL_post 19 = .ok (.iconst 2, 1) := by decide +kernel
theorem dL_post_20 : decode cL_post 20 = .ok (.ireturn, 1) := by decide +kernel
theorem dL_post_21 : decode cL_post 21 = .ok (.astore 4, 2) := by decide +kernel
theorem dL_post_23 : decode cL_post 23 = .ok (.iconst 3, 1) := by decide +kernel
theorem dL_post_24 : decode cL_post 24 = .ok (.ireturn, 1) := by decide +kernel
theorem dL_post_25 : decode cL_post 25 = .ok (.iconst 0, 1) := by decide +kernel
theorem dL_post_26 : decode cL_post 26 = .ok (.ireturn, 1) := by decide +kernel
theorem dL_sample_0 : decode cL_sample 0 = .ok (.aload 5, 2) := by decide +kernel
theorem dL_sample_2 : decode cL_sample 2 = .ok (.iconst 0, 1) := by decide +kernel
theorem dL_sample_3 : decode cL_sample 3 = .ok (.aload_n 0, 1) := by decide +kernel
theorem dL_sample_4 : decode cL_sample 4 = .ok (.iload_n 1, 1) := by decide +kernel
theorem dL_sample_5 : decode cL_sample 5 = .ok (.iload_n 2, 1) := by decide +kernel
theorem dL_sample_6 : decode cL_sample 6 = .ok (.iload_n 3, 1) := by decide +kernel
theorem dL_sample_7 : decode cL_sample 7 = .ok (.iload 4, 2) := by decide +kernel
theorem dL_sample_9 : decode cL_sample 9 = .ok (.invokevirtual 75, 3) := by decide +kernel
theorem dL_sample_12 : decode cL_sample 12 = .ok (.i2l, 1) := by decide +kernel
theorem dL_sample_13 : decode cL_sample 13 = .ok (.lastore, 1) := by decide +kernel
theorem dL_sample_14 : decode cL_sample 14 = .ok (.goto 11, 3) := by decide +kernel
theorem dL_sample_17 : decode cL_sample 17 = .ok (.astore 6, 2) := by decide +kernel
theorem dL_sample_19 : decode cL_sample 19 = .ok (.iconst 1, 1) := by decide +kernel
theorem dL_sample_20 : decode cL_sample 20 = .ok (.ireturn, 1) := by decide +kernel
theorem dL_sample_21 : decode cL_sample 21 = .ok (.astore 6, 2) := by decide +kernel
theorem dL_sample_23 : decode cL_sample 23 = .ok (.iconst 2, 1) := by decide +kernel
theorem dL_sample_24 : decode cL_sample 24 = .ok (.ireturn, 1) := by decide +kernel
theorem dL_sample_25 : decode cL_sample 25 = .ok (.iconst 0, 1) := by decide +kernel
theorem dL_sample_26 : decode cL_sample 26 = .ok (.ireturn, 1) := by decide +kernel
theorem dL_event_0 : decode cL_event 0 = .ok (.aload 4, 2) := by decide +kernel
theorem dL_event_2 : decode cL_event 2 = .ok (.iconst 0, 1) := by decide +kernel
theorem dL_event_3 : decode cL_event 3 = .ok (.aload_n 0, 1) := by decide +kernel
theorem dL_event_4 : decode cL_event 4 = .ok (.iload_n 1, 1) := by decide +kernel
theorem dL_event_5 : decode cL_event 5 = .ok (.iload_n 2, 1) := by decide +kernel
theorem dL_event_6 : decode cL_event 6 = .ok (.iload_n 3, 1) := by decide +kernel
theorem dL_event_7 : decode cL_event 7 = .ok (.invokevirtual 78, 3) := by decide +kernel
theorem dL_event_10 : decode cL_event 10 = .ok (.i2l, 1) := by decide +kernel
theorem dL_event_11 : decode cL_event 11 = .ok (.lastore, 1) := by decide +kernel
theorem dL_event_12 : decode cL_event 12 = .ok (.goto 11, 3) := by decide +kernel
theorem dL_event_15 : decode cL_event 15 = .ok (.astore 5, 2) := by decide +kernel
theorem dL_event_17 : decode cL_event 17 = .ok (.iconst 1, 1) := by decide +kernel
theorem dL_event_18 : decode cL_event 18 = .ok (.ireturn, 1) := by decide +kernel
theorem dL_event_19 : decode cL_event 19 = .ok (.astore 5, 2) := by decide +kernel
theorem dL_event_21 : decode cL_event 21 = .ok (.iconst 2, 1) := by decide +kernel
theorem dL_event_22 : decode cL_event 22 = .ok (.ireturn, 1) := by decide +kernel
theorem dL_event_23 : decode cL_event 23 = .ok (.iconst 0, 1) := by decide +kernel
theorem dL_event_24 : decode cL_event 24 = .ok (.ireturn, 1) := by decide +kernel
theorem dL_recall_0 : decode cL_recall 0 = .ok (.aload 4, 2) := by decide +kernel
theorem dL_recall_2 : decode cL_recall 2 = .ok (.iconst 0, 1) := by decide +kernel
theorem dL_recall_3 : decode cL_recall 3 = .ok (.aload_n 0, 1) := by decide +kernel
theorem dL_recall_4 : decode cL_recall 4 = .ok (.iload_n 1, 1) := by decide +kernel
theorem dL_recall_5 : decode cL_recall 5 = .ok (.iload_n 2, 1) := by decide +kernel
theorem dL_recall_6 : decode cL_recall 6 = .ok (.iload_n 3, 1) := by decide +kernel
theorem dL_recall_7 : decode cL_recall 7 = .ok (.invokevirtual 81, 3) := by decide +kernel
theorem dL_recall_10 : decode cL_recall 10 = .ok (.i2l, 1) := by decide +kernel
theorem dL_recall_11 : decode cL_recall 11 = .ok (.lastore, 1) := by decide +kernel
theorem dL_recall_12 : decode cL_recall 12 = .ok (.goto 11, 3) := by decide +kernel
theorem dL_recall_15 : decode cL_recall 15 = .ok (.astore 5, 2) := by decide +kernel
theorem dL_recall_17 : decode cL_recall 17 = .ok (.iconst 1, 1) := by decide +kernel
theorem dL_recall_18 : decode cL_recall 18 = .ok (.ireturn, 1) := by decide +kernel
theorem dL_recall_19 : decode cL_recall 19 = .ok (.astore 5, 2) := by decide +kernel
theorem dL_recall_21 : decode cL_recall 21 = .ok (.iconst 2, 1) := by decide +kernel
theorem dL_recall_22 : decode cL_recall 22 = .ok (.ireturn, 1) := by decide +kernel
theorem dL_recall_23 : decode cL_recall 23 = .ok (.iconst 0, 1) := by decide +kernel
theorem dL_recall_24 : decode cL_recall 24 = .ok (.ireturn, 1) := by decide +kernel
theorem dL_ban_0 : decode cL_ban 0 = .ok (.aload 4, 2) := by decide +kernel
theorem dL_ban_2 : decode cL_ban 2 = .ok (.iconst 0, 1) := by decide +kernel
theorem dL_ban_3 : decode cL_ban 3 = .ok (.aload_n 0, 1) := by decide +kernel
theorem dL_ban_4 : decode cL_ban 4 = .ok (.iload_n 1, 1) := by decide +kernel
theorem dL_ban_5 : decode cL_ban 5 = .ok (.iload_n 2, 1) := by decide +kernel
theorem dL_ban_6 : decode cL_ban 6 = .ok (.iload_n 3, 1) := by decide +kernel
theorem dL_ban_7 : decode cL_ban 7 = .ok (.invokevirtual 84, 3) := by decide +kernel
theorem dL_ban_10 : decode cL_ban 10 = .ok (.i2l, 1) := by decide +kernel
theorem dL_ban_11 : decode cL_ban 11 = .ok (.lastore, 1) := by decide +kernel
theorem dL_ban_12 : decode cL_ban 12 = .ok (.goto 7, 3) := by decide +kernel
theorem dL_ban_15 : decode cL_ban 15 = .ok (.astore 5, 2) := by decide +kernel
theorem dL_ban_17 : decode cL_ban 17 = .ok (.iconst 1, 1) := by decide +kernel
theorem dL_ban_18 : decode cL_ban 18 = .ok (.ireturn, 1) := by decide +kernel
theorem dL_ban_19 : decode cL_ban 19 = .ok (.iconst 0, 1) := by decide +kernel
theorem dL_ban_20 : decode cL_ban 20 = .ok (.ireturn, 1) := by decide +kernel
theorem dL_pass_0 : decode cL_pass 0 = .ok (.aload_n 2, 1) := by decide +kernel
theorem dL_pass_1 : decode cL_pass 1 = .ok (.iconst 0, 1) := by decide +kernel
theorem dL_pass_2 : decode cL_pass 2 = .ok (.aload_n 0, 1) := by decide +kernel
theorem dL_pass_3 : decode cL_pass 3 = .ok (.iload_n 1, 1) := by decide +kernel
theorem dL_pass_4 : decode cL_pass 4 = .ok (.invokevirtual 88, 3) := by decide +kernel
theorem dL_pass_7 : decode cL_pass 7 = .ok (.i2l, 1) := by decide +kernel
theorem dL_pass_8 : decode cL_pass 8 = .ok (.lastore, 1) := by decide +kernel
theorem dL_pass_9 : decode cL_pass 9 = .ok (.goto 9, 3) := by decide +kernel
theorem dL_pass_12 : decode cL_pass 12 = .ok (.astore_n 3, 1) := by decide +kernel
theorem dL_pass_13 : decode cL_pass 13 = .ok (.iconst 1, 1) := by decide +kernel
theorem dL_pass_14 : decode cL_pass 14 = .ok (.ireturn, 1) := by decide +kernel
theorem dL_pass_15 : decode cL_pass 15 = .ok (.astore_n 3, 1) := by decide +kernel
theorem dL_pass_16 : decode cL_pass 16 = .ok (.iconst 2, 1) := by decide +kernel
theorem dL_pass_17 : decode cL_pass 17 = .ok (.ireturn, 1) := by decide +kernel
theorem dL_pass_18 : decode cL_pass 18 = .ok (.iconst 0, 1) := by decide +kernel
theorem dL_pass_19 : decode cL_pass 19 = .ok (.ireturn, 1) := by decide +kernel
theorem dL_applies_0 : decode cL_applies 0 = .ok (.aload_n 3, 1) := by decide +kernel
theorem dL_applies_1 : decode cL_applies 1 = .ok (.iconst 0, 1) := by decide +kernel
theorem dL_applies_2 : decode cL_applies 2 = .ok (.aload_n 0, 1) := by decide +kernel
theorem dL_applies_3 : decode cL_applies 3 = .ok (.iload_n 1, 1) := by decide +kernel
theorem dL_applies_4 : decode cL_applies 4 = .ok (.iload_n 2, 1) := by decide +kernel
theorem dL_applies_5 : decode cL_applies 5 = .ok (.invokevirtual 91, 3) := by decide +kernel
theorem dL_applies_8 : decode cL_applies 8 = .ok (.ifCond .eq 7, 3) := by decide +kernel
theorem dL_applies_11 : decode cL_applies 11 = .ok (.lconst 1, 1) := by decide +kernel
theorem dL_applies_12 : decode cL_applies 12 = .ok (.goto 4, 3) := by decide +kernel
theorem dL_applies_15 : decode cL_applies 15 = .ok (.lconst 0, 1) := by decide +kernel
theorem dL_applies_16 : decode cL_applies 16 = .ok (.lastore, 1) := by decide +kernel
theorem dL_applies_17 : decode cL_applies 17 = .ok (.goto 7, 3) := by decide +kernel
theorem dL_applies_20 : decode cL_applies 20 = .ok (.astore 4, 2) := by decide +kernel
theorem dL_applies_22 : decode cL_applies 22 = .ok (.iconst 1, 1) := by decide +kernel
theorem dL_applies_23 : decode cL_applies 23 = .ok (.ireturn, 1) := by decide +kernel
theorem dL_applies_24 : decode cL_applies 24 = .ok (.iconst 0, 1) := by decide +kernel
theorem dL_applies_25 : decode cL_applies 25 = .ok (.ireturn, 1) := by decide +kernel
theorem dL_demands_0 : decode cL_demands 0 = .ok (.aload_n 3, 1) := by decide +kernel
theorem dL_demands_1 : decode cL_demands 1 = .ok (.iconst 0, 1) := by decide +kernel
theorem dL_demands_2 : decode cL_demands 2 = .ok (.aload_n 0, 1) := by decide +kernel
theorem dL_demands_3 : decode cL_demands 3 = .ok (.iload_n 1, 1) := by decide +kernel
theorem dL_demands_4 : decode cL_demands 4 = .ok (.iload_n 2, 1) := by decide +kernel
theorem dL_demands_5 : decode cL_demands 5 = .ok (.invokevirtual 94, 3) := by decide +kernel
theorem dL_demands_8 : decode cL_demands 8 = .ok (.i2l, 1) := by decide +kernel
theorem dL_demands_9 : decode cL_demands 9 = .ok (.lastore, 1) := by decide +kernel
theorem dL_demands_10 : decode cL_demands 10 = .ok (.goto 7, 3) := by decide +kernel
theorem dL_demands_13 : decode cL_demands 13 = .ok (.astore 4, 2) := by decide +kernel
theorem dL_demands_15 : decode cL_demands 15 = .ok (.iconst 1, 1) := by decide +kernel
theorem dL_demands_16 : decode cL_demands 16 = .ok (.ireturn, 1) := by decide +kernel
theorem dL_demands_17 : decode cL_demands 17 = .ok (.iconst 0, 1) := by decide +kernel
theorem dL_demands_18 : decode cL_demands 18 = .ok (.ireturn, 1) := by decide +kernel
theorem dL_way_0 : decode cL_way 0 = .ok (.aload_n 2, 1) := by decide +kernel
theorem dL_way_1 : decode cL_way 1 = .ok (.iconst 0, 1) := by decide +kernel
theorem dL_way_2 : decode cL_way 2 = .ok (.aload_n 0, 1) := by decide +kernel
theorem dL_way_3 : decode cL_way 3 = .ok (.iload_n 1, 1) := by decide +kernel
theorem dL_way_4 : decode cL_way 4 = .ok (.invokevirtual 98, 3) := by decide +kernel
theorem dL_way_7 : decode cL_way 7 = .ok (.i2l, 1) := by decide +kernel
theorem dL_way_8 : decode cL_way 8 = .ok (.lastore, 1) := by decide +kernel
theorem dL_way_9 : decode cL_way 9 = .ok (.goto 6, 3) := by decide +kernel
theorem dL_way_12 : decode cL_way 12 = .ok (.astore_n 3, 1) := by decide +kernel
theorem dL_way_13 : decode cL_way 13 = .ok (.iconst 1, 1) := by decide +kernel
theorem dL_way_14 : decode cL_way 14 = .ok (.ireturn, 1) := by decide +kernel
theorem dL_way_15 : decode cL_way 15 = .ok (.iconst 0, 1) := by decide +kernel
theorem dL_way_16 : decode cL_way 16 = .ok (.ireturn, 1) := by decide +kernel
theorem dL_wanting_0 : decode cL_wanting 0 = .ok (.aload_n 2, 1) := by decide +kernel
theorem dL_wanting_1 : decode cL_wanting 1 = .ok (.iconst 0, 1) := by decide +kernel
theorem dL_wanting_2 : decode cL_wanting 2 = .ok (.aload_n 0, 1) := by decide +kernel
theorem dL_wanting_3 : decode cL_wanting 3 = .ok (.iload_n 1, 1) := by decide +kernel
theorem dL_wanting_4 : decode cL_wanting 4 = .ok (.invokevirtual 101, 3) := by decide +kernel
theorem dL_wanting_7 : decode cL_wanting 7 = .ok (.i2l, 1) := by decide +kernel
theorem dL_wanting_8 : decode cL_wanting 8 = .ok (.lastore, 1) := by decide +kernel
theorem dL_wanting_9 : decode cL_wanting 9 = .ok (.goto 6, 3) := by decide +kernel
theorem dL_wanting_12 : decode cL_wanting 12 = .ok (.astore_n 3, 1) := by decide +kernel
theorem dL_wanting_13 : decode cL_wanting 13 = .ok (.iconst 1, 1) := by decide +kernel
theorem dL_wanting_14 : decode cL_wanting 14 = .ok (.ireturn, 1) := by decide +kernel
theorem dL_wanting_15 : decode cL_wanting 15 = .ok (.iconst 0, 1) := by decide +kernel
theorem dL_wanting_16 : decode cL_wanting 16 = .ok (.ireturn, 1) := by decide +kernel
theorem dL_productOf_0 : decode cL_productOf 0 = .ok (.aload_n 3, 1) := by decide +kernel
theorem dL_productOf_1 : decode cL_productOf 1 = .ok (.iconst 0, 1) := by decide +kernel
theorem dL_productOf_2 : decode cL_productOf 2 = .ok (.aload_n 0, 1) := by decide +kernel
theorem dL_productOf_3 : decode cL_productOf 3 = .ok (.iload_n 1, 1) := by decide +kernel
theorem dL_productOf_4 : decode cL_productOf 4 = .ok (.iload_n 2, 1) := by decide +kernel
theorem dL_productOf_5 : decode cL_productOf 5 = .ok (.invokevirtual 104, 3) := by decide +kernel
theorem dL_productOf_8 : decode cL_productOf 8 = .ok (.i2l, 1) := by decide +kernel
theorem dL_productOf_9 : decode cL_productOf 9 = .ok (.lastore, 1) := by decide +kernel
theorem dL_productOf_10 : decode cL_productOf 10 = .ok (.goto 11, 3) := by decide +kernel
theorem dL_productOf_13 : decode cL_productOf 13 = .ok (.astore 4, 2) := by decide +kernel
theorem dL_productOf_15 : decode cL_productOf 15 = .ok (.iconst 1, 1) := by decide +kernel
theorem dL_productOf_16 : decode cL_productOf 16 = .ok (.ireturn, 1) := by decide +kernel
theorem dL_productOf_17 : decode cL_productOf 17 = .ok (.astore 4, 2) := by decide +kernel
theorem dL_productOf_19 : decode cL_productOf 19 = .ok (.iconst 2, 1) := by decide +kernel
theorem dL_productOf_20 : decode cL_productOf 20 = .ok (.ireturn, 1) := by decide +kernel
theorem dL_productOf_21 : decode cL_productOf 21 = .ok (.iconst 0, 1) := by decide +kernel
theorem dL_productOf_22 : decode cL_productOf 22 = .ok (.ireturn, 1) := by decide +kernel
theorem dL_riskOf_0 : decode cL_riskOf 0 = .ok (.aload 4, 2) := by decide +kernel
theorem dL_riskOf_2 : decode cL_riskOf 2 = .ok (.iconst 0, 1) := by decide +kernel
theorem dL_riskOf_3 : decode cL_riskOf 3 = .ok (.aload_n 0, 1) := by decide +kernel
theorem dL_riskOf_4 : decode cL_riskOf 4 = .ok (.iload_n 1, 1) := by decide +kernel
theorem dL_riskOf_5 : decode cL_riskOf 5 = .ok (.iload_n 2, 1) := by decide +kernel
theorem dL_riskOf_6 : decode cL_riskOf 6 = .ok (.iload_n 3, 1) := by decide +kernel
theorem dL_riskOf_7 : decode cL_riskOf 7 = .ok (.invokevirtual 107, 3) := by decide +kernel
theorem dL_riskOf_10 : decode cL_riskOf 10 = .ok (.i2l, 1) := by decide +kernel
theorem dL_riskOf_11 : decode cL_riskOf 11 = .ok (.lastore, 1) := by decide +kernel
theorem dL_riskOf_12 : decode cL_riskOf 12 = .ok (.goto 7, 3) := by decide +kernel
theorem dL_riskOf_15 : decode cL_riskOf 15 = .ok (.astore 5, 2) := by decide +kernel
theorem dL_riskOf_17 : decode cL_riskOf 17 = .ok (.iconst 1, 1) := by decide +kernel
theorem dL_riskOf_18 : decode cL_riskOf 18 = .ok (.ireturn, 1) := by decide +kernel
theorem dL_riskOf_19 : decode cL_riskOf 19 = .ok (.iconst 0, 1) := by decide +kernel
theorem dL_riskOf_20 : decode cL_riskOf 20 = .ok (.ireturn, 1) := by decide +kernel
theorem dL_batchOf_0 : decode cL_batchOf 0 = .ok (.aload_n 3, 1) := by decide +kernel
theorem dL_batchOf_1 : decode cL_batchOf 1 = .ok (.iconst 0, 1) := by decide +kernel
theorem dL_batchOf_2 : decode cL_batchOf 2 = .ok (.aload_n 0, 1) := by decide +kernel
theorem dL_batchOf_3 : decode cL_batchOf 3 = .ok (.iload_n 1, 1) := by decide +kernel
theorem dL_batchOf_4 : decode cL_batchOf 4 = .ok (.iload_n 2, 1) := by decide +kernel
theorem dL_batchOf_5 : decode cL_batchOf 5 = .ok (.invokevirtual 110, 3) := by decide +kernel
theorem dL_batchOf_8 : decode cL_batchOf 8 = .ok (.i2l, 1) := by decide +kernel
theorem dL_batchOf_9 : decode cL_batchOf 9 = .ok (.lastore, 1) := by decide +kernel
theorem dL_batchOf_10 : decode cL_batchOf 10 = .ok (.goto 11, 3) := by decide +kernel
theorem dL_batchOf_13 : decode cL_batchOf 13 = .ok (.astore 4, 2) := by decide +kernel
theorem dL_batchOf_15 : decode cL_batchOf 15 = .ok (.iconst 1, 1) := by decide +kernel
theorem dL_batchOf_16 : decode cL_batchOf 16 = .ok (.ireturn, 1) := by decide +kernel
theorem dL_batchOf_17 : decode cL_batchOf 17 = .ok (.astore 4, 2) := by decide +kernel
theorem dL_batchOf_19 : decode cL_batchOf 19 = .ok (.iconst 2, 1) := by decide +kernel
theorem dL_batchOf_20 : decode cL_batchOf 20 = .ok (.ireturn, 1) := by decide +kernel
theorem dL_batchOf_21 : decode cL_batchOf 21 = .ok (.iconst 0, 1) := by decide +kernel
theorem dL_batchOf_22 : decode cL_batchOf 22 = .ok (.ireturn, 1) := by decide +kernel
