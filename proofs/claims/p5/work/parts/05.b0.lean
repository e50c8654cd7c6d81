theorem dL_charge_0 : decode cL_charge 0 = .ok (.aload_n 3, 1) := by decide +kernel
theorem dL_charge_1 : decode cL_charge 1 = .ok (.iconst 0, 1) := by decide +kernel
theorem dL_charge_2 : decode cL_charge 2 = .ok (.aload_n 0, 1) := by decide +kernel
theorem dL_charge_3 : decode cL_charge 3 = .ok (.iload_n 1, 1) := by decide +kernel
theorem dL_charge_4 : decode cL_charge 4 = .ok (.iload_n 2, 1) := by decide +kernel
theorem dL_charge_5 : decode cL_charge 5 = .ok (.invokevirtual 7, 3) := by decide +kernel
theorem dL_charge_8 : decode cL_charge 8 = .ok (.i2l, 1) := by decide +kernel
theorem dL_charge_9 : decode cL_charge 9 = .ok (.lastore, 1) := by decide +kernel
theorem dL_charge_10 : decode cL_charge 10 = .ok (.goto 7, 3) := by decide +kernel
theorem dL_charge_13 : decode cL_charge 13 = .ok (.astore 4, 2) := by decide +kernel
theorem dL_charge_15 : decode cL_charge 15 = .ok (.iconst 1, 1) := by decide +kernel
theorem dL_charge_16 : decode cL_charge 16 = .ok (.ireturn, 1) := by decide +kernel
theorem dL_charge_17 : decode cL_charge 17 = .ok (.iconst 0, 1) := by decide +kernel
theorem dL_charge_18 : decode cL_charge 18 = .ok (.ireturn, 1) := by decide +kernel
theorem dL_feed_0 : decode cL_feed 0 = .ok (.aload_n 3, 1) := by decide +kernel
theorem dL_feed_1 : decode cL_feed 1 = .ok (.iconst 0, 1) := by decide +kernel
theorem dL_feed_2 : decode cL_feed 2 = .ok (.aload_n 0, 1) := by decide +kernel
theorem dL_feed_3 : decode cL_feed 3 = .ok (.iload_n 1, 1) := by decide +kernel
theorem dL_feed_4 : decode cL_feed 4 = .ok (.iload_n 2, 1) := by decide +kernel
theorem dL_feed_5 : decode cL_feed 5 = .ok (.invokevirtual 15, 3) := by decide +kernel
theorem dL_feed_8 : decode cL_feed 8 = .ok (.i2l, 1) := by decide +kernel
theorem dL_feed_9 : decode cL_feed 9 = .ok (.lastore, 1) := by decide +kernel
theorem dL_feed_10 : decode cL_feed 10 = .ok (.goto 11, 3) := by decide +kernel
theorem dL_feed_13 : decode cL_feed 13 = .ok (.astore 4, 2) := by decide +kernel
theorem dL_feed_15 : decode cL_feed 15 = .ok (.iconst 1, 1) := by decide +kernel
theorem dL_feed_16 : decode cL_feed 16 = .ok (.ireturn, 1) := by decide +kernel
theorem dL_feed_17 : decode cL_feed 17 = .ok (.astore 4, 2) := by decide +kernel
theorem dL_feed_19 : decode cL_feed 19 = .ok (.iconst 2, 1) := by decide +kernel
theorem dL_feed_20 : decode cL_feed 20 = .ok (.ireturn, 1) := by decide +kernel
theorem dL_feed_21 : decode cL_feed 21 = .ok (.iconst 0, 1) := by decide +kernel
theorem dL_feed_22 : decode cL_feed 22 = .ok (.ireturn, 1) := by decide +kernel
theorem dL_lime_0 : decode cL_lime 0 = .ok (.aload_n 2, 1) := by decide +kernel
theorem dL_lime_1 : decode cL_lime 1 = .ok (.iconst 0, 1) := by decide +kernel
theorem dL_lime_2 : decode cL_lime 2 = .ok (.aload_n 0, 1) := by decide +kernel
theorem dL_lime_3 : decode cL_lime 3 = .ok (.iload_n 1, 1) := by decide +kernel
theorem dL_lime_4 : decode cL_lime 4 = .ok (.invokevirtual 20, 3) := by decide +kernel
theorem dL_lime_7 : decode cL_lime 7 = .ok (.i2l, 1) := by decide +kernel
theorem dL_lime_8 : decode cL_lime 8 = .ok (.lastore, 1) := by decide +kernel
theorem dL_lime_9 : decode cL_lime 9 = .ok (.goto 6, 3) := by decide +kernel
theorem dL_lime_12 : decode cL_lime 12 = .ok (.astore_n 3, 1) := by decide +kernel
theorem dL_lime_13 : decode cL_lime 13 = .ok (.iconst 1, 1) := by decide +kernel
theorem dL_lime_14 : decode cL_lime 14 = .ok (.ireturn, 1) := by decide +kernel
theorem dL_lime_15 : decode cL_lime 15 = .ok (.iconst 0, 1) := by decide +kernel
theorem dL_lime_16 : decode cL_lime 16 = .ok (.ireturn, 1) := by decide +kernel
theorem dL_hours_0 : decode cL_hours 0 = .ok (.aload_n 2, 1) := by decide +kernel
theorem dL_hours_1 : decode cL_hours 1 = .ok (.iconst 0, 1) := by decide +kernel
theorem dL_hours_2 : decode cL_hours 2 = .ok (.aload_n 0, 1) := by decide +kernel
theorem dL_hours_3 : decode cL_hours 3 = .ok (.iload_n 1, 1) := by decide +kernel
theorem dL_hours_4 : decode cL_hours 4 = .ok (.invokevirtual 24, 3) := by decide +kernel
theorem dL_hours_7 : decode cL_hours 7 = .ok (.i2l, 1) := by decide +kernel
theorem dL_hours_8 : decode cL_hours 8 = .ok (.lastore, 1) := by decide +kernel
theorem dL_hours_9 : decode cL_hours 9 = .ok (.goto 6, 3) := by decide +kernel
theorem dL_hours_12 : decode cL_hours 12 = .ok (.astore_n 3, 1) := by decide +kernel
theorem dL_hours_13 : decode cL_hours 13 = .ok (.iconst 1, 1) := by decide +kernel
theorem dL_hours_14 : decode cL_hours 14 = .ok (.ireturn, 1) := by decide +kernel
theorem dL_hours_15 : decode cL_hours 15 = .ok (.iconst 0, 1) := by decide +kernel
theorem dL_hours_16 : decode cL_hours 16 = .ok (.ireturn, 1) := by decide +kernel
theorem dL_dip_0 : decode cL_dip 0 = .ok (.aload 4, 2) := by decide +kernel
theorem dL_dip_2 : decode cL_dip 2 = .ok (.iconst 0, 1) := by decide +kernel
theorem dL_dip_3 : decode cL_dip 3 = .ok (.aload_n 0, 1) := by decide +kernel
theorem dL_dip_4 : decode cL_dip 4 = .ok (.iload_n 1, 1) := by decide +kernel
theorem dL_dip_5 : decode cL_dip 5 = .ok (.iload_n 2, 1) := by decide +kernel
theorem dL_dip_6 : decode cL_dip 6 = .ok (.iload_n 3, 1) := by decide +kernel
theorem dL_dip_7 : decode cL_dip 7 = .ok (.invokevirtual 27, 3) := by decide +kernel
theorem dL_dip_10 : decode cL_dip 10 = .ok (.i2l, 1) := by decide +kernel
theorem dL_dip_11 : decode cL_dip 11 = .ok (.lastore, 1) := by decide +kernel
theorem dL_dip_12 : decode cL_dip 12 = .ok (.goto 11, 3) := by decide +kernel
theorem dL_dip_15 : decode cL_dip 15 = .ok (.astore 5, 2) := by decide +kernel
theorem dL_dip_17 : decode cL_dip 17 = .ok (.iconst 1, 1) := by decide +kernel
theorem dL_dip_18 : decode cL_dip 18 = .ok (.ireturn, 1) := by decide +kernel
theorem dL_dip_19 : decode cL_dip 19 = .ok (.astore 5, 2) := by decide +kernel
theorem dL_dip_21 : decode cL_dip 21 = .ok (.iconst 2, 1) := by decide +kernel
theorem dL_dip_22 : decode cL_dip 22 = .ok (.ireturn, 1) := by decide +kernel
theorem dL_dip_23 : decode cL_dip 23 = .ok (.iconst 0, 1) := by decide +kernel
theorem dL_dip_24 : decode cL_dip 24 = .ok (.ireturn, 1) := by decide +kernel
theorem dL_treat_0 : decode cL_treat 0 = .ok (.aload_n 3, 1) := by decide +kernel
theorem dL_treat_1 : decode cL_treat 1 = .ok (.iconst 0, 1) := by decide +kernel
theorem dL_treat_2 : decode cL_treat 2 = .ok (.aload_n 0, 1) := by decide +kernel
theorem dL_treat_3 : decode cL_treat 3 = .ok (.iload_n 1, 1) := by decide +kernel
theorem dL_treat_4 : decode cL_treat 4 = .ok (.iload_n 2, 1) := by decide +kernel
theorem dL_treat_5 : decode cL_treat 5 = .ok (.invokevirtual 31, 3) := by decide +kernel
theorem dL_treat_8 : decode cL_treat 8 = .ok (.i2l, 1) := by decide +kernel
theorem dL_treat_9 : decode cL_treat 9 = .ok (.lastore, 1) := by decide +kernel
theorem dL_treat_10 : decode cL_treat 10 = .ok (.goto 11, 3) := by decide +kernel
theorem dL_treat_13 : decode cL_treat 13 = .ok (.astore 4, 2) := by decide +kernel
theorem dL_treat_15 : decode cL_treat 15 = .ok (.iconst 1, 1) := by decide +kernel
theorem dL_treat_16 : decode cL_treat 16 = .ok (.ireturn, 1) := by decide +kernel
theorem dL_treat_17 : decode cL_treat 17 = .ok (.astore 4, 2) := by decide +kernel
theorem dL_treat_19 : decode cL_treat 19 = .ok (.iconst 2, 1) := by decide +kernel
theorem dL_treat_20 : decode cL_treat 20 = .ok (.ireturn, 1) := by decide +kernel
theorem dL_treat_21 : decode cL_treat 21 = .ok (.iconst 0, 1) := by decide +kernel
theorem dL_treat_22 : decode cL_treat 22 = .ok (.ireturn, 1) := by decide +kernel
theorem dL_recipe_0 : decode cL_recipe 0 = .ok (.aload_n 3, 1) := by decide +kernel
theorem dL_recipe_1 : decode cL_recipe 1 = .ok (.iconst 0, 1) := by decide +kernel
theorem dL_recipe_2 : decode cL_recipe 2 = .ok (.aload_n 0, 1) := by decide +kernel
theorem dL_recipe_3 : decode cL_recipe 3 = .ok (.iload_n 1, 1) := by decide +kernel
theorem dL_recipe_4 : decode cL_recipe 4 = .ok (.iload_n 2, 1) := by decide +kernel
theorem dL_recipe_5 : decode cL_recipe 5 = .ok (.invokevirtual 34, 3) := by decide +kernel
theorem dL_recipe_8 : decode cL_recipe 8 = .ok (.i2l, 1) := by decide +kernel
theorem dL_recipe_9 : decode cL_recipe 9 = .ok (.lastore, 1) := by decide +kernel
theorem dL_recipe_10 : decode cL_recipe 10 = .ok (.goto 7, 3) := by decide +kernel
theorem dL_recipe_13 : decode cL_recipe 13 = .ok (.astore 4, 2) := by decide +kernel
theorem dL_recipe_15 : decode cL_recipe 15 = .ok (.iconst 1, 1) := by decide +kernel
theorem dL_recipe_16 : decode cL_recipe 16 = .ok (.ireturn, 1) := by decide +kernel
theorem dL_recipe_17 : decode cL_recipe 17 = .ok (.iconst 0, 1) := by decide +kernel
theorem dL_recipe_18 : decode cL_recipe 18 = .ok (.ireturn, 1) := by decide +kernel
theorem dL_fault_0 : decode cL_fault 0 = .ok (.aload_n 2, 1) := by decide +kernel
theorem dL_fault_1 : decode cL_fault 1 = .ok (.iconst 0, 1) := by decide +kernel
theorem dL_fault_2 : decode cL_fault 2 = .ok (.aload_n 0, 1) := by decide +kernel
theorem dL_fault_3 : decode cL_fault 3 = .ok (.iload_n 1, 1) := by decide +kernel
theorem dL_fault_4 : decode cL_fault 4 = .ok (.invokevirtual 37, 3) := by decide +kernel
theorem dL_fault_7 : decode cL_fault 7 = .ok (.i2l, 1) := by decide +kernel
theorem dL_fault_8 : decode cL_fault 8 = .ok (.lastore, 1) := by decide +kernel
theorem dL_fault_9 : decode cL_fault 9 = .ok (.goto 6, 3) := by decide +kernel
theorem dL_fault_12 : decode cL_fault 12 = .ok (.astore_n 3, 1) := by decide +kernel
theorem dL_fault_13 : decode cL_fault 13 = .ok (.iconst 1, 1) := by decide +kernel
theorem dL_fault_14 : decode cL_fault 14 = .ok (.ireturn, 1) := by decide +kernel
theorem dL_fault_15 : decode cL_fault 15 = .ok (.iconst 0, 1) := by decide +kernel
theorem dL_fault_16 : decode cL_fault 16 = .ok (.ireturn, 1) := by decide +kernel
theorem dL_run_0 : decode cL_run 0 = .ok (.aload 4, 2) := by decide +kernel
theorem dL_run_2 : decode cL_run 2 = .ok (.iconst 0, 1) := by decide +kernel
theorem dL_run_3 : decode cL_run 3 = .ok (.aload_n 0, 1) := by decide +kernel
theorem dL_run_4 : decode cL_run 4 = .ok (.iload_n 1, 1) := by decide +kernel
theorem dL_run_5 : decode cL_run 5 = .ok (.iload_n 2, 1) := by decide +kernel
theorem dL_run_6 : decode cL_run 6 = .ok (.iload_n 3, 1) := by decide +kernel
theorem dL_run_7 : decode cL_run 7 = .ok (.invokevirtual 40, 3) := by decide +kernel
theorem dL_run_10 : decode cL_run 10 = .ok (.i2l, 1) := by decide +kernel
theorem dL_run_11 : decode cL_run 11 = .ok (.lastore, 1) := by decide +kernel
theorem dL_run_12 : decode cL_run 12 = .ok (.goto 7, 3) := by decide +kernel
theorem dL_run_15 : decode cL_run 15 = .ok (.astore 5, 2) := by decide +kernel
theorem dL_run_17 : decode cL_run 17 = .ok (.iconst 1, 1) := by decide +kernel
theorem dL_run_18 : decode cL_run 18 = .ok (.ireturn, 1) := by decide +kernel
theorem dL_run_19 : decode cL_run 19 = .ok (.iconst 0, 1) := by decide +kernel
theorem dL_run_20 : decode cL_run 20 = .ok (.ireturn, 1) := by decide +kernel
theorem dL_ran_0 : decode cL_ran 0 = .ok (.aload_n 2, 1) := by decide +kernel
theorem dL_ran_1 : decode cL_ran 1 = .ok (.iconst 0, 1) := by decide +kernel
theorem dL_ran_2 : decode cL_ran 2 = .ok (.aload_n 0, 1) := by decide +kernel
theorem dL_ran_3 : decode cL_ran 3 = .ok (.iload_n 1, 1) := by decide +kernel
theorem dL_ran_4 : decode cL_ran 4 = .ok (.invokevirtual 43, 3) := by decide +kernel
theorem dL_ran_7 : decode cL_ran 7 = .ok (.i2l, 1) := by decide +kernel
theorem dL_ran_8 : decode cL_ran 8 = .ok (.lastore, 1) := by decide +kernel
theorem dL_ran_9 : decode cL_ran 9 = .ok (.goto 6, 3) := by decide +kernel
theorem dL_ran_12 : decode cL_ran 12 = .ok (.astore_n 3, 1) := by decide +kernel
theorem dL_ran_13 : decode cL_ran 13 = .ok (.iconst 1, 1) := by decide +kernel
theorem dL_ran_14 : decode cL_ran 14 = .ok (.ireturn, 1) := by decide +kernel
theorem dL_ran_15 : decode cL_ran 15 = .ok (.iconst 0, 1) := by decide +kernel
theorem dL_ran_16 : decode cL_ran 16 = .ok (.ireturn, 1) := by decide +kernel
theorem dL_plan_0 : decode cL_plan 0 = .ok (.aload 5, 2) := by decide +kernel
theorem dL_plan_2 : decode cL_plan 2 = .ok (.iconst 0, 1) := by decide +kernel
theorem dL_plan_3 : decode cL_plan 3 = .ok (.aload_n 0, 1) := by decide +kernel
theorem dL_plan_4 : decode cL_plan 4 = .ok (.iload_n 1, 1) := by decide +kernel
theorem dL_plan_5 : decode cL_plan 5 = .ok (.iload_n 2, 1) := by decide +kernel
theorem dL_plan_6 : decode cL_plan 6 = .ok (.iload_n 3, 1) := by decide +kernel
theorem dL_plan_7 : decode cL_plan 7 = .ok (.iload 4, 2) := by decide +kernel
theorem dL_plan_9 : decode cL_plan 9 = .ok (.invokevirtual 46, 3) := by decide +kernel
theorem dL_plan_12 : decode cL_plan 12 = .ok (.i2l, 1) := by decide +kernel
theorem dL_plan_13 : decode cL_plan 13 = .ok (.lastore, 1) := by decide +kernel
theorem dL_plan_14 : decode cL_plan 14 = .ok (.goto 11, 3) := by decide +kernel
theorem dL_plan_17 : decode cL_plan 17 = .ok (.astore 6, 2) := by decide +kernel
theorem dL_plan_19 : decode cL_plan 19 = .ok (.iconst 1, 1) := by decide +kernel
theorem dL_plan_20 : decode cL_plan 20 = .ok (.ireturn, 1) := by decide +kernel
theorem dL_plan_21 : decode cL_plan 21 = .ok (.astore 6, 2) := by decide +kernel
theorem dL_plan_23 : decode cL_plan 23 = .ok (.iconst 2, 1) := by decide +kernel
theorem dL_plan_24 : decode cL_plan 24 = .ok (.ireturn, 1) := by decide +kernel
theorem dL_plan_25 : decode cL_plan 25 = .ok (.iconst 0, 1) := by decide +kernel
theorem dL_plan_26 : decode cL_plan 26 = .ok (.ireturn, 1) := by decide +kernel
theorem dL_planned_0 : decode cL_planned 0 = .ok (.aload_n 3, 1) := by decide +kernel
theorem dL_planned_1 : decode cL_planned 1 = .ok (.iconst 0, 1) := by decide +kernel
theorem dL_planned_2 : decode cL_planned 2 = .ok (.aload_n 0, 1) := by decide +kernel
theorem dL_planned_3 : decode cL_planned 3 = .ok (.iload_n 1, 1) := by decide +kernel
theorem dL_planned_4 : decode cL_planned 4 = .ok (.iload_n 2, 1) := by decide +kernel
theorem dL_planned_5 : decode cL_planned 5 = .ok (.invokevirtual 50, 3) := by decide +kernel
theorem dL_planned_8 : decode cL_planned 8 = .ok (.i2l, 1) := by decide +kernel
theorem dL_planned_9 : decode cL_planned 9 = .ok (.lastore, 1) := by decide +kernel
theorem dL_planned_10 : decode cL_planned 10 = .ok (.goto 7, 3) := by decide +kernel
theorem dL_planned_13 : decode cL_planned 13 = .ok (.astore 4, 2) := by decide +kernel
theorem dL_planned_15 : decode cL_planned 15 = .ok (.iconst 1, 1) := by decide +kernel
theorem dL_planned_16 : decode cL_planned 16 = .ok (.ireturn, 1) := by decide +kernel
theorem dL_planned_17 : decode cL_planned 17 = .ok (.iconst 0, 1) := by decide +kernel
theorem dL_planned_18 : decode cL_planned 18 = .ok (.ireturn, 1) := by decide +kernel
theorem dL_vat_0 : decode cL_vat 0 = .ok (.aload_n 3, 1) := by decide +kernel
theorem dL_vat_1 : decode cL_vat 1 = .ok (.iconst 0, 1) := by decide +kernel
theorem dL_vat_2 : decode cL_vat 2 = .ok (.aload_n 0, 1) := by decide +kernel
theorem dL_vat_3 : decode cL_vat 3 = .ok (.iload_n 1, 1) := by decide +kernel
theorem dL_vat_4 : decode cL_vat 4 = .ok (.iload_n 2, 1) := by decide +kernel
theorem dL_vat_5 : decode cL_vat 5 = .ok (.invokevirtual 53, 3) := by decide +kernel
theorem dL_vat_8 : decode cL_vat 8 = .ok (.i2l, 1) := by decide +kernel
theorem dL_vat_9 : decode cL_vat 9 = .ok (.lastore, 1) := by decide +kernel
theorem dL_vat_10 : decode cL_vat 10 = .ok (.goto 7, 3) := by decide +kernel
theorem dL_vat_13 : decode cL_vat 13 = .ok (.astore 4, 2) := by decide +kernel
theorem dL_vat_15 : decode cL_vat 15 = .ok (.iconst 1, 1) := by decide +kernel
theorem dL_vat_16 : decode cL_vat 16 = .ok (.ireturn, 1) := by decide +kernel
theorem dL_vat_17 : decode cL_vat 17 = .ok (.iconst 0, 1) := by decide +kernel
theorem dL_vat_18 : decode cL_vat 18 = .ok (.ireturn, 1) := by decide +kernel
theorem dL_about_0 : decode cL_about 0 = .ok (.aload_n 3, 1) := by decide +kernel
theorem dL_about_1 : decode cL_about 1 = .ok (.iconst 0, 1) := by decide +kernel
theorem dL_about_2 : decode cL_about 2 = .ok (.aload_n 0, 1) := by decide +kernel
theorem dL_about_3 : decode cL_about 3 = .ok (.iload_n 1, 1) := by decide +kernel
theorem dL_about_4 : decode cL_about 4 = .ok (.iload_n 2, 1) := by decide +kernel
theorem dL_about_5 : decode cL_about 5 = .ok (.invokevirtual 56, 3) := by decide +kernel
theorem dL_about_8 : decode cL_about 8 = .ok (.i2l, 1) := by decide +kernel
theorem dL_about_9 : decode cL_about 9 = .ok (.lastore, 1) := by decide +kernel
theorem dL_about_10 : decode cL_about 10 = .ok (.goto 7, 3) := by decide +kernel
theorem dL_about_13 : decode cL_about 13 = .ok (.astore 4, 2) := by decide +kernel
theorem dL_about_15 : decode cL_about 15 = .ok (.iconst 1, 1) := by decide +kernel
theorem dL_about_16 : decode cL_about 16 = .ok (.ireturn, 1) := by decide +kernel
theorem dL_about_17 : decode cL_about 17 = .ok (.iconst 0, 1) := by decide +kernel
theorem dL_about_18 : decode cL_about 18 = .ok (.ireturn, 1) := by decide +kernel
theorem dL_count_0 : decode cL_count 0 = .ok (.aload_n 2, 1) := by decide +kernel
theorem dL_count_1 : decode cL_count 1 = .ok (.iconst 0, 1) := by decide +kernel
theorem dL_count_2 : decode cL_count 2 = .ok (.aload_n 0, 1) := by decide +kernel
theorem dL_count_3 : decode cL_count 3 = .ok (.iload_n 1, 1) := by decide +kernel
theorem dL_count_4 : decode cL_count 4 = .ok (.invokevirtual 59, 3) := by decide +kernel
theorem dL_count_7 : decode cL_count 7 = .ok (.i2l, 1) := by decide +kernel
theorem dL_count_8 : decode cL_count 8 = .ok (.lastore, 1) := by decide +kernel
theorem dL_count_9 : decode cL_count 9 = .ok (.goto 6, 3) := by decide +kernel
theorem dL_count_12 : decode cL_count 12 = .ok (.astore_n 3, 1) := by decide +kernel
theorem dL_count_13 : decode cL_count 13 = .ok (.iconst 1, 1) := by decide +kernel
theorem dL_count_14 : decode cL_count 14 = .ok (.ireturn, 1) := by decide +kernel
theorem dL_count_15 : decode cL_count 15 = .ok (.iconst 0, 1) := by decide +kernel
theorem dL_count_16 : decode cL_count 16 = .ok (.ireturn, 1) := by decide +kernel
theorem dL_faded_0 : decode cL_faded 0 = .ok (.aload 4, 2) := by decide +kernel
theorem dL_faded_2 : decode cL_faded 2 = .ok (.iconst 0, 1) := by decide +kernel
theorem dL_faded_3 : decode cL_faded 3 = .ok (.aload_n 0, 1) := by decide +kernel
theorem dL_faded_4 : decode cL_faded 4 = .ok (.iload_n 1, 1) := by decide +kernel
theorem dL_faded_5 : decode cL_faded 5 = .ok (.iload_n 2, 1) := by decide +kernel
theorem dL_faded_6 : decode cL_faded 6 = .ok (.iload_n 3, 1) := by decide +kernel
theorem dL_faded_7 : decode cL_faded 7 = .ok (.invokevirtual 62, 3) := by decide +kernel
theorem dL_faded_10 : decode cL_faded 10 = .ok (.i2l, 1) := by decide +kernel
theorem dL_faded_11 : decode cL_faded 11 = .ok (.lastore, 1) := by decide +kernel
theorem dL_faded_12 : decode cL_faded 12 = .ok (.goto 11, 3) := by decide +kernel
theorem dL_faded_15 : decode cL_faded 15 = .ok (.astore 5, 2) := by decide +kernel
theorem dL_faded_17 : decode cL_faded 17 = .ok (.iconst 1, 1) := by decide +kernel
theorem dL_faded_18 : decode cL_faded 18 = .ok (.ireturn, 1) := by decide +kernel
theorem dL_faded_19 : decode cL_faded 19 = .ok (.astore 5, 2) := by decide +kernel
theorem dL_faded_21 : decode cL_faded 21 = .ok (.iconst 2, 1) := by decide +kernel
theorem dL_faded_22 : decode cL_faded 22 = .ok (.ireturn, 1) := by decide +kernel
theorem dL_faded_23 : decode cL_faded 23 = .ok (.iconst 0, 1) := by decide +kernel
theorem dL_faded_24 : decode cL_faded 24 = .ok (.ireturn, 1) := by decide +kernel
theorem dL_matching_0 : decode cL_matching 0 = .ok (.aload_n 3, 1) := by decide +kernel
theorem dL_matching_1 : decode cL_matching 1 = .ok (.iconst 0, 1) := by decide +kernel
theorem dL_matching_2 : decode cL_matching 2 = .ok (.aload_n 0, 1) := by decide +kernel
theorem dL_matching_3 : decode cL_matching 3 = .ok (.iload_n 1, 1) := by decide +kernel
theorem dL_matching_4 : decode cL_matching 4 = .ok (.iload_n 2, 1) := by decide +kernel
theorem dL_matching_5 : decode cL_matching 5 = .ok (.invokevirtual 65, 3) := by decide +kernel
theorem dL_matching_8 : decode cL_matching 8 = .ok (.i2l, 1) := by decide +kernel
theorem dL_matching_9 : decode cL_matching 9 = .ok (.lastore, 1) := by decide +kernel
theorem dL_matching_10 : decode cL_matching 10 = .ok (.goto 11, 3) := by decide +kernel
theorem dL_matching_13 : decode cL_matching 13 = .ok (.astore 4, 2) := by decide +kernel
theorem dL_matching_15 : decode cL_matching 15 = .ok (.iconst 1, 1) := by decide +kernel
theorem dL_matching_16 : decode cL_matching 16 = .ok (.ireturn, 1) := by decide +kernel
theorem dL_matching_17 : decode cL_matching 17 = .ok (.astore 4, 2) := by decide +kernel
theorem dL_matching_19 : decode cL_matching 19 = .ok (.iconst 2, 1) := by decide +kernel
theorem dL_matching_20 : decode cL_matching 20 = .ok (.ireturn, 1) := by decide +kernel
theorem dL_matching_21 : decode cL_matching 21 = .ok (.iconst 0, 1) := by decide +kernel
theorem dL_matching_22 : decode cL_matching 22 = .ok (.ireturn, 1) := by decide +kernel
