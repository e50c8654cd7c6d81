theorem dX9_dip_74 : decode cX9_dip 74 = .ok (.iload 6, 2) := by decide +kernel
theorem dX9_dip_76 : decode cX9_dip 76 = .ok (.invokevirtual 110, 3) := by decide +kernel
theorem dX9_dip_79 : decode cX9_dip 79 = .ok (.iload 6, 2) := by decide +kernel
theorem dX9_dip_81 : decode cX9_dip 81 = .ok (.ireturn, 1) := by decide +kernel
theorem dX9_treat_0 : decode cX9_treat 0 = .ok (.aload_n 0, 1) := by decide +kernel
theorem dX9_treat_1 : decode cX9_treat 1 = .ok (.iload_n 1, 1) := by decide +kernel
theorem dX9_treat_2 : decode cX9_treat 2 = .ok (.invokevirtual 98, 3) := by decide +kernel
theorem dX9_treat_5 : decode cX9_treat 5 = .ok (.astore_n 3, 1) := by decide +kernel
theorem dX9_treat_6 : decode cX9_treat 6 = .ok (.iload_n 2, 1) := by decide +kernel
theorem dX9_treat_7 : decode cX9_treat 7 = .ok (.ifCond .lt 12, 3) := by decide +kernel
theorem dX9_treat_10 : decode cX9_treat 10 = .ok (.iload_n 2, 1) := by decide +kernel
theorem dX9_treat_11 : decode cX9_treat 11 = .ok (.iconst 2, 1) := by decide +kernel
theorem dX9_treat_12 : decode cX9_treat 12 = .ok (.if_icmp .gt 7, 3) := by decide +kernel
theorem dX9_treat_15 : decode cX9_treat 15 = .ok (.iconst 1, 1) := by decide +kernel
theorem dX9_treat_16 : decode cX9_treat 16 = .ok (.goto 4, 3) := by decide +kernel
theorem dX9_treat_19 : decode cX9_treat 19 = .ok (.iconst 0, 1) := by decide +kernel
theorem dX9_treat_20 : decode cX9_treat 20 = .ok (.invokestatic 71, 3) := by decide +kernel
theorem dX9_treat_23 : decode cX9_treat 23 = .ok (.aload_n 3, 1) := by decide +kernel
theorem dX9_treat_24 : decode cX9_treat 24 = .ok (.getfield 102, 3) := by decide +kernel
theorem dX9_treat_27 : decode cX9_treat 27 = .ok (.ifCond .eq 5, 3) := by decide +kernel
theorem dX9_treat_30 : decode cX9_treat 30 = .ok (.iconst (-1), 1) := by decide +kernel
theorem dX9_treat_31 : decode cX9_treat 31 = .ok (.ireturn, 1) := by decide +kernel
theorem dX9_treat_32 : decode cX9_treat 32 = .ok (.iload_n 2, 1) := by decide +kernel
theorem dX9_treat_33 : decode cX9_treat 33 = .ok (.lookupswitch 45 #[(0, 27), (1, 36)], 27) := by decide +kernel
theorem dX9_treat_60 : decode cX9_treat 60 = .ok (.aload_n 0, 1) := by decide +kernel
theorem dX9_treat_61 : decode cX9_treat 61 = .ok (.getfield 10, 3) := by decide +kernel
theorem dX9_treat_64 : decode cX9_treat 64 = .ok (.aload_n 3, 1) := by decide +kernel
theorem dX9_treat_65 : decode cX9_treat 65 = .ok (.invokevirtual 114, 3) := by decide +kernel
theorem dX9_treat_68 : decode cX9_treat 68 = .ok (.ireturn, 1) := by decide +kernel
theorem dX9_treat_69 : decode cX9_treat 69 = .ok (.aload_n 0, 1) := by decide +kernel
theorem dX9_treat_70 : decode cX9_treat 70 = .ok (.getfield 10, 3) := by decide +kernel
theorem dX9_treat_73 : decode cX9_treat 73 = .ok (.aload_n 3, 1) := by decide +kernel
theorem dX9_treat_74 : decode cX9_treat 74 = .ok (.invokevirtual 118, 3) := by decide +kernel
theorem dX9_treat_77 : decode cX9_treat 77 = .ok (.ireturn, 1) := by decide +kernel
theorem dX9_treat_78 : decode cX9_treat 78 = .ok (.aload_n 0, 1) := by decide +kernel
theorem dX9_treat_79 : decode cX9_treat 79 = .ok (.getfield 10, 3) := by decide +kernel
theorem dX9_treat_82 : decode cX9_treat 82 = .ok (.aload_n 3, 1) := by decide +kernel
theorem dX9_treat_83 : decode cX9_treat 83 = .ok (.invokevirtual 121, 3) := by decide +kernel
theorem dX9_treat_86 : decode cX9_treat 86 = .ok (.ireturn, 1) := by decide +kernel
theorem dX9_put_0 : decode cX9_put 0 = .ok (.aload_n 0, 1) := by decide +kernel
theorem dX9_put_1 : decode cX9_put 1 = .ok (.getfield 124, 3) := by decide +kernel
theorem dX9_put_4 : decode cX9_put 4 = .ok (.aload_n 0, 1) := by decide +kernel
theorem dX9_put_5 : decode cX9_put 5 = .ok (.getfield 22, 3) := by decide +kernel
theorem dX9_put_8 : decode cX9_put 8 = .ok (.arraylength, 1) := by decide +kernel
theorem dX9_put_9 : decode cX9_put 9 = .ok (.bipush 20, 2) := by decide +kernel
theorem dX9_put_11 : decode cX9_put 11 = .ok (.isub, 1) := by decide +kernel
theorem dX9_put_12 : decode cX9_put 12 = .ok (.if_icmp .le 5, 3) := by decide +kernel
theorem dX9_put_15 : decode cX9_put 15 = .ok (.iconst (-1), 1) := by decide +kernel
theorem dX9_put_16 : decode cX9_put 16 = .ok (.ireturn, 1) := by decide +kernel
theorem dX9_put_17 : decode cX9_put 17 = .ok (.aload_n 0, 1) := by decide +kernel
theorem dX9_put_18 : decode cX9_put 18 = .ok (.iload_n 1, 1) := by decide +kernel
theorem dX9_put_19 : decode cX9_put 19 = .ok (.invokevirtual 127, 3) := by decide +kernel
theorem dX9_put_22 : decode cX9_put 22 = .ok (.aload_n 0, 1) := by decide +kernel
theorem dX9_put_23 : decode cX9_put 23 = .ok (.iload_n 2, 1) := by decide +kernel
theorem dX9_put_24 : decode cX9_put 24 = .ok (.invokevirtual 127, 3) := by decide +kernel
theorem dX9_put_27 : decode cX9_put 27 = .ok (.aload_n 0, 1) := by decide +kernel
theorem dX9_put_28 : decode cX9_put 28 = .ok (.iload_n 3, 1) := by decide +kernel
theorem dX9_put_29 : decode cX9_put 29 = .ok (.invokevirtual 127, 3) := by decide +kernel
theorem dX9_put_32 : decode cX9_put 32 = .ok (.aload_n 0, 1) := by decide +kernel
theorem dX9_put_33 : decode cX9_put 33 = .ok (.iload 4, 2) := by decide +kernel
theorem dX9_put_35 : decode cX9_put 35 = .ok (.invokevirtual 127, 3) := by decide +kernel
theorem dX9_put_38 : decode cX9_put 38 = .ok (.aload_n 0, 1) := by decide +kernel
theorem dX9_put_39 : decode cX9_put 39 = .ok (.iload 5, 2) := by decide +kernel
theorem dX9_put_41 : decode cX9_put 41 = .ok (.invokevirtual 127, 3) := by decide +kernel
theorem dX9_put_44 : decode cX9_put 44 = .ok (.aload_n 0, 1) := by decide +kernel
theorem dX9_put_45 : decode cX9_put 45 = .ok (.getfield 124, 3) := by decide +kernel
theorem dX9_put_48 : decode cX9_put 48 = .ok (.ireturn, 1) := by decide +kernel
theorem dX9_recipe_0 : decode cX9_recipe 0 = .ok (.iload_n 1, 1) := by decide +kernel
theorem dX9_recipe_1 : decode cX9_recipe 1 = .ok (.ifCond .lt 28, 3) := by decide +kernel
theorem dX9_recipe_4 : decode cX9_recipe 4 = .ok (.iload_n 1, 1) := by decide +kernel
theorem dX9_recipe_5 : decode cX9_recipe 5 = .ok (.aload_n 0, 1) := by decide +kernel
theorem dX9_recipe_6 : decode cX9_recipe 6 = .ok (.getfield 37, 3) := by decide +kernel
theorem dX9_recipe_9 : decode cX9_recipe 9 = .ok (.arraylength, 1) := by decide +kernel
theorem dX9_recipe_10 : decode cX9_recipe 10 = .ok (.if_icmp .ge 19, 3) := by decide +kernel
theorem dX9_recipe_13 : decode cX9_recipe 13 = .ok (.iload_n 2, 1) := by decide +kernel
theorem dX9_recipe_14 : decode cX9_recipe 14 = .ok (.ifCond .lt 15, 3) := by decide +kernel
theorem dX9_recipe_17 : decode cX9_recipe 17 = .ok (.iload_n 2, 1) := by decide +kernel
theorem dX9_recipe_18 : decode cX9_recipe 18 = .ok (.aload_n 0, 1) := by decide +kernel
theorem dX9_recipe_19 : decode cX9_recipe 19 = .ok (.getfield 124, 3) := by decide +kernel
theorem dX9_recipe_22 : decode cX9_recipe 22 = .ok (.if_icmp .gt 7, 3) := by decide +kernel
theorem dX9_recipe_25 : decode cX9_recipe 25 = .ok (.iconst 1, 1) := by decide +kernel
theorem dX9_recipe_26 : decode cX9_recipe 26 = .ok (.goto 4, 3) := by decide +kernel
theorem dX9_recipe_29 : decode cX9_recipe 29 = .ok (.iconst 0, 1) := by decide +kernel
theorem dX9_recipe_30 : decode cX9_recipe 30 = .ok (.invokestatic 71, 3) := by decide +kernel
theorem dX9_recipe_33 : decode cX9_recipe 33 = .ok (.aload_n 0, 1) := by decide +kernel
theorem dX9_recipe_34 : decode cX9_recipe 34 = .ok (.getfield 31, 3) := by decide +kernel
theorem dX9_recipe_37 : decode cX9_recipe 37 = .ok (.iload_n 2, 1) := by decide +kernel
theorem dX9_recipe_38 : decode cX9_recipe 38 = .ok (.invokevirtual 130, 3) := by decide +kernel
theorem dX9_recipe_41 : decode cX9_recipe 41 = .ok (.astore_n 3, 1) := by decide +kernel
theorem dX9_recipe_42 : decode cX9_recipe 42 = .ok (.aload_n 0, 1) := by decide +kernel
theorem dX9_recipe_43 : decode cX9_recipe 43 = .ok (.iconst 0, 1) := by decide +kernel
theorem dX9_recipe_44 : decode cX9_recipe 44 = .ok (.putfield 124, 3) := by decide +kernel
theorem dX9_recipe_47 : decode cX9_recipe 47 = .ok (.aload_n 0, 1) := by decide +kernel
theorem dX9_recipe_48 : decode cX9_recipe 48 = .ok (.getfield 31, 3) := by decide +kernel
theorem dX9_recipe_51 : decode cX9_recipe 51 = .ok (.getfield 134, 3) := by decide +kernel
theorem dX9_recipe_54 : decode cX9_recipe 54 = .ok (.ifCond .ne 28, 3) := by decide +kernel
theorem dX9_recipe_57 : decode cX9_recipe 57 = .ok (.aload_n 0, 1) := by decide +kernel
theorem dX9_recipe_58 : decode cX9_recipe 58 = .ok (.getfield 37, 3) := by decide +kernel
theorem dX9_recipe_61 : decode cX9_recipe 61 = .ok (.iload_n 1, 1) := by decide +kernel
theorem dX9_recipe_62 : decode cX9_recipe 62 = .ok (.new 35, 3) := by decide +kernel
theorem dX9_recipe_65 : decode cX9_recipe 65 = .ok (.dup, 1) := by decide +kernel
theorem dX9_recipe_66 : decode cX9_recipe 66 = .ok (.aload_n 3, 1) := by decide +kernel
theorem dX9_recipe_67 : decode cX9_recipe 67 = .ok (.invokespecial 137, 3) := by decide +kernel
theorem dX9_recipe_70 : decode cX9_recipe 70 = .ok (.aastore, 1) := by decide +kernel
theorem dX9_recipe_71 : decode cX9_recipe 71 = .ok (.aload_n 0, 1) := by decide +kernel
theorem dX9_recipe_72 : decode cX9_recipe 72 = .ok (.aload_n 0, 1) := by decide +kernel
theorem dX9_recipe_73 : decode cX9_recipe 73 = .ok (.getfield 31, 3) := by decide +kernel
theorem dX9_recipe_76 : decode cX9_recipe 76 = .ok (.getfield 140, 3) := by decide +kernel
theorem dX9_recipe_79 : decode cX9_recipe 79 = .ok (.putfield 143, 3) := by decide +kernel
theorem dX9_recipe_82 : decode cX9_recipe 82 = .ok (.aload_n 0, 1) := by decide +kernel
theorem dX9_recipe_83 : decode cX9_recipe 83 = .ok (.getfield 31, 3) := by decide +kernel
theorem dX9_recipe_86 : decode cX9_recipe 86 = .ok (.getfield 134, 3) := by decide +kernel
theorem dX9_recipe_89 : decode cX9_recipe 89 = .ok (.ireturn, 1) := by decide +kernel
theorem dX9_fault_0 : decode cX9_fault 0 = .ok (.iload_n 1, 1) := by decide +kernel
theorem dX9_fault_1 : decode cX9_fault 1 = .ok (.lookupswitch 43 #[(0, 27), (1, 35)], 27) := by decide +kernel
theorem dX9_fault_28 : decode cX9_fault 28 = .ok (.aload_n 0, 1) := by decide +kernel
theorem dX9_fault_29 : decode cX9_fault 29 = .ok (.getfield 31, 3) := by decide +kernel
theorem dX9_fault_32 : decode cX9_fault 32 = .ok (.getfield 134, 3) := by decide +kernel
theorem dX9_fault_35 : decode cX9_fault 35 = .ok (.ireturn, 1) := by decide +kernel
theorem dX9_fault_36 : decode cX9_fault 36 = .ok (.aload_n 0, 1) := by decide +kernel
theorem dX9_fault_37 : decode cX9_fault 37 = .ok (.getfield 31, 3) := by decide +kernel
theorem dX9_fault_40 : decode cX9_fault 40 = .ok (.getfield 146, 3) := by decide +kernel
theorem dX9_fault_43 : decode cX9_fault 43 = .ok (.ireturn, 1) := by decide +kernel
theorem dX9_fault_44 : decode cX9_fault 44 = .ok (.new 149, 3) := by decide +kernel
theorem dX9_fault_47 : decode cX9_fault 47 = .ok (.dup, 1) := by decide +kernel
theorem dX9_fault_48 : decode cX9_fault 48 = .ok (.ldc 151, 2) := by decide +kernel
theorem dX9_fault_50 : decode cX9_fault 50 = .ok (.invokespecial 153, 3) := by decide +kernel
theorem dX9_fault_53 : decode cX9_fault 53 = .ok (.athrow, 1) := by decide +kernel
theorem dX9_run_0 : decode cX9_run 0 = .ok (.aload_n 0, 1) := by decide +kernel
theorem dX9_run_1 : decode cX9_run 1 = .ok (.iload_n 2, 1) := by decide +kernel
theorem dX9_run_2 : decode cX9_run 2 = .ok (.invokevirtual 98, 3) := by decide +kernel
theorem dX9_run_5 : decode cX9_run 5 = .ok (.astore 4, 2) := by decide +kernel
theorem dX9_run_7 : decode cX9_run 7 = .ok (.iload_n 1, 1) := by decide +kernel
theorem dX9_run_8 : decode cX9_run 8 = .ok (.ifCond .lt 24, 3) := by decide +kernel
theorem dX9_run_11 : decode cX9_run 11 = .ok (.iload_n 1, 1) := by decide +kernel
theorem dX9_run_12 : decode cX9_run 12 = .ok (.aload_n 0, 1) := by decide +kernel
theorem dX9_run_13 : decode cX9_run 13 = .ok (.getfield 37, 3) := by decide +kernel
theorem dX9_run_16 : decode cX9_run 16 = .ok (.arraylength, 1) := by decide +kernel
theorem dX9_run_17 : decode cX9_run 17 = .ok (.if_icmp .ge 15, 3) := by decide +kernel
theorem dX9_run_20 : decode cX9_run 20 = .ok (.iload_n 3, 1) := by decide +kernel
theorem dX9_run_21 : decode cX9_run 21 = .ok (.iconst 1, 1) := by decide +kernel
theorem dX9_run_22 : decode cX9_run 22 = .ok (.if_icmp .lt 10, 3) := by decide +kernel
theorem dX9_run_25 : decode cX9_run 25 = .ok (.iload_n 3, 1) := by decide +kernel
theorem dX9_run_26 : decode cX9_run 26 = .ok (.sipush 5000, 3) := by decide +kernel
theorem dX9_run_29 : decode cX9_run 29 = .ok (.if_icmp .le 5, 3) := by decide +kernel
theorem dX9_run_32 : decode cX9_run 32 = .ok (.iconst (-1), 1) := by decide +kernel
theorem dX9_run_33 : decode cX9_run 33 = .ok (.ireturn, 1) := by decide +kernel
theorem dX9_run_34 : decode cX9_run 34 = .ok (.aload_n 0, 1) := by decide +kernel
theorem dX9_run_35 : decode cX9_run 35 = .ok (.getfield 37, 3) := by decide +kernel
theorem dX9_run_38 : decode cX9_run 38 = .ok (.iload_n 1, 1) := by decide +kernel
theorem dX9_run_39 : decode cX9_run 39 = .ok (.aaload, 1) := by decide +kernel
theorem dX9_run_40 : decode cX9_run 40 = .ok (.astore 5, 2) := by decide +kernel
theorem dX9_run_42 : decode cX9_run 42 = .ok (.aload 5, 2) := by decide +kernel
theorem dX9_run_44 : decode cX9_run 44 = .ok (.ifnull 11, 3) := by decide +kernel
theorem dX9_run_47 : decode cX9_run 47 = .ok (.aload 4, 2) := by decide +kernel
theorem dX9_run_49 : decode cX9_run 49 = .ok (.getfield 102, 3) := by decide +kernel
theorem dX9_run_52 : decode cX9_run 52 = .ok (.ifCond .eq 5, 3) := by decide +kernel
theorem dX9_run_55 : decode cX9_run 55 = .ok (.iconst (-1), 1) := by decide +kernel
theorem dX9_run_56 : decode cX9_run 56 = .ok (.ireturn, 1) := by decide +kernel
theorem dX9_run_57 : decode cX9_run 57 = .ok (.aload_n 0, 1) := by decide +kernel
theorem dX9_run_58 : decode cX9_run 58 = .ok (.getfield 46, 3) := by decide +kernel
theorem dX9_run_61 : decode cX9_run 61 = .ok (.aload 5, 2) := by decide +kernel
theorem dX9_run_63 : decode cX9_run 63 = .ok (.getfield 156, 3) := by decide +kernel
theorem dX9_run_66 : decode cX9_run 66 = .ok (.aload 4, 2) := by decide +kernel
theorem dX9_run_68 : decode cX9_run 68 = .ok (.iload_n 3, 1) := by decide +kernel
theorem dX9_run_69 : decode cX9_run 69 = .ok (.invokevirtual 160, 3) := by decide +kernel
theorem dX9_run_72 : decode cX9_run 72 = .ok (.ireturn, 1) := by decide +kernel
theorem dX9_ran_0 : decode cX9_ran 0 = .ok (.iload_n 1, 1) := by decide +kernel
theorem dX9_ran_1 : decode cX9_ran 1 = .ok (.tableswitch 87 0 5 #[39, 47, 55, 63, 71, 79], 39) := by decide +kernel
theorem dX9_ran_40 : decode cX9_ran 40 = .ok (.aload_n 0, 1) := by decide +kernel
theorem dX9_ran_41 : decode cX9_ran 41 = .ok (.getfield 46, 3) := by decide +kernel
theorem dX9_ran_44 : decode cX9_ran 44 = .ok (.getfield 164, 3) := by decide +kernel
theorem dX9_ran_47 : decode cX9_ran 47 = .ok (.ireturn, 1) := by decide +kernel
theorem dX9_ran_48 : decode cX9_ran 48 = .ok (.aload_n 0, 1) := by decide +kernel
theorem dX9_ran_49 : decode cX9_ran 49 = .ok (.getfield 46, 3) := by decide +kernel
theorem dX9_ran_52 : decode cX9_ran 52 = .ok (.getfield 167, 3) := by decide +kernel
theorem dX9_ran_55 : decode cX9_ran 55 = .ok (.ireturn, 1) := by decide +kernel
theorem dX9_ran_56 : decode cX9_ran 56 = .ok (.aload_n 0, 1) := by decide +kernel
theorem dX9_ran_57 : decode cX9_ran 57 = .ok (.getfield 46, 3) := by decide +kernel
theorem dX9_ran_60 : decode cX9_ran 60 = .ok (.getfield 170, 3) := by decide +kernel
theorem dX9_ran_63 : decode cX9_ran 63 = .ok (.ireturn, 1) := by decide +kernel
theorem dX9_ran_64 : decode cX9_ran 64 = .ok (.aload_n 0, 1) := by decide +kernel
theorem dX9_ran_65 : decode cX9_ran 65 = .ok (.getfield 46, 3) := by decide +kernel
theorem dX9_ran_68 : decode cX9_ran 68 = .ok (.getfield 173, 3) := by decide +kernel
theorem dX9_ran_71 : decode cX9_ran 71 = .ok (.ireturn, 1) := by decide +kernel
theorem dX9_ran_72 : decode cX9_ran 72 = .ok (.aload_n 0, 1) := by decide +kernel
theorem dX9_ran_73 : decode cX9_ran 73 = .ok (.getfield 46, 3) := by decide +kernel
theorem dX9_ran_76 : decode cX9_ran 76 = .ok (.getfield 176, 3) := by decide +kernel
theorem dX9_ran_79 : decode cX9_ran 79 = .ok (.ireturn, 1) := by decide +kernel
theorem dX9_ran_80 : decode cX9_ran 80 = .ok (.aload_n 0, 1) := by decide +kernel
theorem dX9_ran_81 : decode cX9_ran 81 = .ok (.getfield 46, 3) := by decide +kernel
theorem dX9_ran_84 : decode cX9_ran 84 = .ok (.getfield 179, 3) := by decide +kernel
theorem dX9_ran_87 : decode cX9_ran 87 = .ok (.ireturn, 1) := by decide +kernel
theorem dX9_ran_88 : decode cX9_ran 88 = .ok (.new 149, 3) := by decide +kernel
theorem dX9_ran_91 : decode cX9_ran 91 = .ok (.dup, 1) := by decide +kernel
theorem dX9_ran_92 : decode cX9_ran 92 = .ok (.ldc 151, 2) := by decide +kernel
theorem dX9_ran_94 : decode cX9_ran 94 = .ok (.invokespecial 153, 3) := by decide +kernel
theorem dX9_ran_97 : decode cX9_ran 97 = .ok (.athrow, 1) := by decide +kernel
theorem dX9_plan_0 : decode cX9_plan 0 = .ok (.aload_n 0, 1) := by decide +kernel
theorem dX9_plan_1 : decode cX9_plan 1 = .ok (.iload_n 1, 1) := by decide +kernel
theorem dX9_plan_2 : decode cX9_plan 2 = .ok (.invokevirtual 98, 3) := by decide +kernel
theorem dX9_plan_5 : decode cX9_plan 5 = .ok (.astore 5, 2) := by decide +kernel
theorem dX9_plan_7 : decode cX9_plan 7 = .ok (.iload 4, 2) := by decide +kernel
theorem dX9_plan_9 : decode cX9_plan 9 = .ok (.ifCond .lt 22, 3) := by decide +kernel
theorem dX9_plan_12 : decode cX9_plan 12 = .ok (.iload 4, 2) := by decide +kernel
theorem dX9_plan_14 : decode cX9_plan 14 = .ok (.iconst 3, 1) := by decide +kernel
theorem dX9_plan_15 : decode cX9_plan 15 = .ok (.if_icmp .gt 16, 3) := by decide +kernel
theorem dX9_plan_18 : decode cX9_plan 18 = .ok (.iload_n 2, 1) := by decide +kernel
theorem dX9_plan_19 : decode cX9_plan 19 = .ok (.ifCond .lt 12, 3) := by decide +kernel
theorem dX9_plan_22 : decode cX9_plan 22 = .ok (.iload_n 2, 1) := by decide +kernel
theorem dX9_plan_23 : decode cX9_plan 23 = .ok (.iload_n 3, 1) := by decide +kernel
theorem dX9_plan_24 : decode cX9_plan 24 = .ok (.if_icmp .gt 7, 3) := by decide +kernel
theorem dX9_plan_27 : decode cX9_plan 27 = .ok (.iconst 1, 1) := by decide +kernel
theorem dX9_plan_28 : decode cX9_plan 28 = .ok (.goto 4, 3) := by decide +kernel
theorem dX9_plan_31 : decode cX9_plan 31 = .ok (.iconst 0, 1) := by decide +kernel
theorem dX9_plan_32 : decode cX9_plan 32 = .ok (.invokestatic 71, 3) := by decide +kernel
theorem dX9_plan_35 : decode cX9_plan 35 = .ok (.aload 5, 2) := by decide +kernel
theorem dX9_plan_37 : decode cX9_plan 37 = .ok (.getfield 102, 3) := by decide +kernel
theorem dX9_plan_40 : decode cX9_plan 40 = .ok (.ifCond .eq 5, 3) := by decide +kernel
theorem dX9_plan_43 : decode cX9_plan 43 = .ok (.iconst (-1), 1) := by decide +kernel
theorem dX9_plan_44 : decode cX9_plan 44 = .ok (.ireturn, 1) := by decide +kernel
theorem dX9_plan_45 : decode cX9_plan 45 = .ok (.aload_n 0, 1) := by decide +kernel
theorem dX9_plan_46 : decode cX9_plan 46 = .ok (.getfield 53, 3) := by decide +kernel
theorem dX9_plan_49 : decode cX9_plan 49 = .ok (.aload 5, 2) := by decide +kernel
theorem dX9_plan_51 : decode cX9_plan 51 = .ok (.iload_n 2, 1) := by decide +kernel
theorem dX9_plan_52 : decode cX9_plan 52 = .ok (.iload_n 3, 1) := by decide +kernel
theorem dX9_plan_53 : decode cX9_plan 53 = .ok (.iload 4, 2) := by decide +kernel
theorem dX9_plan_55 : decode cX9_plan 55 = .ok (.invokevirtual 182, 3) := by decide +kernel
theorem dX9_plan_58 : decode cX9_plan 58 = .ok (.ireturn, 1) := by decide +kernel
theorem dX9_planned_0 : decode cX9_planned 0 = .ok (.iload_n 1, 1) := by decide +kernel
theorem dX9_planned_1 : decode cX9_planned 1 = .ok (.ifCond .lt 19, 3) := by decide +kernel
theorem dX9_planned_4 : decode cX9_planned 4 = .ok (.iload_n 1, 1) := by decide +kernel
theorem dX9_planned_5 : decode cX9_planned 5 = .ok (.aload_n 0, 1) := by decide +kernel
theorem dX9_planned_6 : decode cX9_planned 6 = .ok (.getfield 53, 3) := by decide +kernel
theorem dX9_planned_9 : decode cX9_planned 9 = .ok (.getfield 186, 3) := by decide +kernel
theorem dX9_planned_12 : decode cX9_planned 12 = .ok (.if_icmp .ge 8, 3) := by decide +kernel
theorem dX9_planned_15 : decode cX9_planned 15 = .ok (.iload_n 1, 1) := by decide +kernel
theorem dX9_planned_16 : decode cX9_planned 16 = .ok (.iconst 3, 1) := by decide +kernel
theorem dX9_planned_17 : decode cX9_planned 17 = .ok (.if_icmp .lt 13, 3) := by decide +kernel
theorem dX9_planned_20 : decode cX9_planned 20 = .ok (.new 149, 3) := by decide +kernel
theorem dX9_planned_23 : decode cX9_planned 23 = .ok (.dup, 1) := by decide +kernel
theorem dX9_planned_24 : decode cX9_planned 24 = .ok (.ldc 189, 2) := by decide +kernel
theorem dX9_planned_26 : decode cX9_planned 26 = .ok (.invokespecial 153, 3) := by decide +kernel
theorem dX9_planned_29 : decode cX9_planned 29 = .ok (.athrow, 1) := by decide +kernel
theorem dX9_planned_30 : decode cX9_planned 30 = .ok (.iload_n 2, 1) := by decide +kernel
theorem dX9_planned_31 : decode cX9_planned 31 = .ok (.tableswitch 55 0 2 #[25, 35, 45], 25) := by decide +kernel
theorem dX9_planned_56 : decode cX9_planned 56 = .ok (.aload_n 0, 1) := by decide +kernel
theorem dX9_planned_57 : decode cX9_planned 57 = .ok (.getfield 53, 3) := by decide +kernel
theorem dX9_planned_60 : decode cX9_planned 60 = .ok (.getfield 191, 3) := by decide +kernel
theorem dX9_planned_63 : decode cX9_planned 63 = .ok (.iload_n 1, 1) := by decide +kernel
theorem dX9_planned_64 : decode cX9_planned 64 = .ok (.iaload, 1) := by decide +kernel
theorem dX9_planned_65 : decode cX9_planned 65 = .ok (.ireturn, 1) := by decide +kernel
theorem dX9_planned_66 : decode cX9_planned 66 = .ok (.aload_n 0, 1) := by decide +kernel
theorem dX9_planned_67 : decode cX9_planned 67 = .ok (.getfield 53, 3) := by decide +kernel
theorem dX9_planned_70 : decode cX9_planned 70 = .ok (.getfield 195, 3) := by decide +kernel
theorem dX9_planned_73 : decode cX9_planned 73 = .ok (.iload_n 1, 1) := by decide +kernel
theorem dX9_planned_74 : decode cX9_planned 74 = .ok (.iaload, 1) := by decide +kernel
theorem dX9_planned_75 : decode cX9_planned 75 = .ok (.ireturn, 1) := by decide +kernel
theorem dX9_planned_76 : decode cX9_planned 76 = .ok (.aload_n 0, 1) := by decide +kernel
theorem dX9_planned_77 : decode cX9_planned 77 = .ok (.getfield 53, 3) := by decide +kernel
theorem dX9_planned_80 : decode cX9_planned 80 = .ok (.getfield 198, 3) := by decide +kernel
theorem dX9_planned_83 : decode cX9_planned 83 = .ok (.iload_n 1, 1) := by decide +kernel
theorem dX9_planned_84 : decode cX9_planned 84 = .ok (.iaload, 1) := by decide +kernel
theorem dX9_planned_85 : decode cX9_planned 85 = .ok (.ireturn, 1) := by decide +kernel
theorem dX9_planned_86 : decode cX9_planned 86 = .ok (.new 149, 3) := by decide +kernel
theorem dX9_planned_89 : decode cX9_planned 89 = .ok (.dup, 1) := by decide +kernel
theorem dX9_planned_90 : decode cX9_planned 90 = .ok (.ldc 151, 2) := by decide +kernel
theorem dX9_planned_92 : decode cX9_planned 92 = .ok (.invokespecial 153, 3) := by decide +kernel
theorem dX9_planned_95 : decode cX9_planned 95 = .ok (.athrow, 1) := by decide +kernel
theorem dX9_vat_0 : decode cX9_vat 0 = .ok (.aload_n 0, 1) := by decide +kernel
theorem dX9_vat_1 : decode cX9_vat 1 = .ok (.getfield 10, 3) := by decide +kernel
theorem dX9_vat_4 : decode cX9_vat 4 = .ok (.iload_n 1, 1) := by decide +kernel
theorem dX9_vat_5 : decode cX9_vat 5 = .ok (.invokevirtual 57, 3) := by decide +kernel
theorem dX9_vat_8 : decode cX9_vat 8 = .ok (.astore_n 3, 1) := by decide +kernel
theorem dX9_vat_9 : decode cX9_vat 9 = .ok (.iload_n 2, 1) := by decide +kernel
theorem dX9_vat_10 : decode cX9_vat 10 = .ok (.tableswitch 68 0 5 #[38, 43, 48, 53, 58, 63], 38) := by decide +kernel
theorem dX9_vat_48 : decode cX9_vat 48 = .ok (.aload_n 3, 1) := by decide +kernel
theorem dX9_vat_49 : decode cX9_vat 49 = .ok (.getfield 62, 3) := by decide +kernel
theorem dX9_vat_52 : decode cX9_vat 52 = .ok (.ireturn, 1) := by decide +kernel
theorem dX9_vat_53 : decode cX9_vat 53 = .ok (.aload_n 3, 1) := by decide +kernel
theorem dX9_vat_54 : decode cX9_vat 54 = .ok (.getfield 201, 3) := by decide +kernel
theorem dX9_vat_57 : decode cX9_vat 57 = .ok (.ireturn, 1) := by decide +kernel
theorem dX9_vat_58 : decode cX9_vat 58 = .ok (.aload_n 3, 1) := by decide +kernel
theorem dX9_vat_59 : decode cX9_vat 59 = .ok (.getfield 204, 3) := by decide +kernel
theorem dX9_vat_62 : decode cX9_vat 62 = .ok (.ireturn, 1) := by decide +kernel
theorem dX9_vat_63 : decode cX9_vat 63 = .ok (.aload_n 3, 1) := by decide +kernel
theorem dX9_vat_64 : decode cX9_vat 64 = .ok (.getfield 79, 3) := by decide +kernel
theorem dX9_vat_67 : decode cX9_vat 67 = .ok (.ireturn, 1) := by decide +kernel
theorem dX9_vat_68 : decode cX9_vat 68 = .ok (.aload_n 3, 1) := by decide +kernel
theorem dX9_vat_69 : decode cX9_vat 69 = .ok (.getfield 207, 3) := by decide +kernel
theorem dX9_vat_72 : decode cX9_vat 72 = .ok (.ireturn, 1) := by decide +kernel
theorem dX9_vat_73 : decode cX9_vat 73 = .ok (.aload_n 3, 1) := by decide +kernel
theorem dX9_vat_74 : decode cX9_vat 74 = .ok (.getfield 210, 3) := by decide +kernel
theorem dX9_vat_77 : decode cX9_vat 77 = .ok (.ireturn, 1) := by decide +kernel
theorem dX9_vat_78 : decode cX9_vat 78 = .ok (.new 149, 3) := by decide +kernel
theorem dX9_vat_81 : decode cX9_vat 81 = .ok (.dup, 1) := by decide +kernel
theorem dX9_vat_82 : decode cX9_vat 82 = .ok (.ldc 151, 2) := by decide +kernel
theorem dX9_vat_84 : decode cX9_vat 84 = .ok (.invokespecial 153, 3) := by decide +kernel
theorem dX9_vat_87 : decode cX9_vat 87 = .ok (.athrow, 1) := by decide +kernel
theorem dX9_about_0 : decode cX9_about 0 = .ok (.aload_n 0, 1) := by decide +kernel
theorem dX9_about_1 : decode cX9_about 1 = .ok (.iload_n 1, 1) := by decide +kernel
theorem dX9_about_2 : decode cX9_about 2 = .ok (.invokevirtual 98, 3) := by decide +kernel
theorem dX9_about_5 : decode cX9_about 5 = .ok (.astore_n 3, 1) := by decide +kernel
theorem dX9_about_6 : decode cX9_about 6 = .ok (.iload_n 2, 1) := by decide +kernel
theorem dX9_about_7 : decode cX9_about 7 = .ok (.tableswitch 93 0 7 #[45, 50, 55, 60, 65, 78, 83, 88], 45) := by decide +kernel
theorem dX9_about_52 : decode cX9_about 52 = .ok (.aload_n 3, 1) := by decide +kernel
theorem dX9_about_53 : decode cX9_about 53 = .ok (.getfield 213, 3) := by decide +kernel
theorem dX9_about_56 : decode cX9_about 56 = .ok (.ireturn, 1) := by decide +kernel
theorem dX9_about_57 : decode cX9_about 57 = .ok (.aload_n 3, 1) := by decide +kernel
theorem dX9_about_58 : decode cX9_about 58 = .ok (.getfield 216, 3) := by decide +kernel
theorem dX9_about_61 : decode cX9_about 61 = .ok (.ireturn, 1) := by decide +kernel
theorem dX9_about_62 : decode cX9_about 62 = .ok (.aload_n 3, 1) := by decide +kernel
theorem dX9_about_63 : decode cX9_about 63 = .ok (.getfield 219, 3) := by decide +kernel
theorem dX9_about_66 : decode cX9_about 66 = .ok (.ireturn, 1) := by decide +kernel
theorem dX9_about_67 : decode cX9_about 67 = .ok (.aload_n 3, 1) := by decide +kernel
theorem dX9_about_68 : decode cX9_about 68 = .ok (.invokevirtual 222, 3) := by decide +kernel
theorem dX9_about_71 : decode cX9_about 71 = .ok (.ireturn, 1) := by decide +kernel
theorem dX9_about_72 : decode cX9_about 72 = .ok (.aload_n 3, 1) := by decide +kernel
theorem dX9_about_73 : decode cX9_about 73 = .ok (.getfield 102, 3) := by decide +kernel
theorem dX9_about_76 : decode cX9_about 76 = .ok (.ifCond .eq 7, 3) := by decide +kernel
theorem dX9_about_79 : decode cX9_about 79 = .ok (.iconst 1, 1) := by decide +kernel
theorem dX9_about_80 : decode cX9_about 80 = .ok (.goto 4, 3) := by decide +kernel
theorem dX9_about_83 : decode cX9_about 83 = .ok (.iconst 0, 1) := by decide +kernel
theorem dX9_about_84 : decode cX9_about 84 = .ok (.ireturn, 1) := by decide +kernel
theorem dX9_about_85 : decode cX9_about 85 = .ok (.aload_n 3, 1) := by decide +kernel
theorem dX9_about_86 : decode cX9_about 86 = .ok (.getfield 226, 3) := by decide +kernel
theorem dX9_about_89 : decode cX9_about 89 = .ok (.ireturn, 1) := by decide +kernel
theorem dX9_about_90 : decode cX9_about 90 = .ok (.aload_n 3, 1) := by decide +kernel
theorem dX9_about_91 : decode cX9_about 91 = .ok (.getfield 229, 3) := by decide +kernel
theorem dX9_about_94 : decode cX9_about 94 = .ok (.ireturn, 1) := by decide +kernel
theorem dX9_about_95 : decode cX9_about 95 = .ok (.aload_n 3, 1) := by decide +kernel
theorem dX9_about_96 : decode cX9_about 96 = .ok (.getfield 232, 3) := by decide +kernel
theorem dX9_about_99 : decode cX9_about 99 = .ok (.ireturn, 1) := by decide +kernel
theorem dX9_about_100 : decode cX9_about 100 = .ok (.new 149, 3) := by decide +kernel
theorem dX9_about_103 : decode cX9_about 103 = .ok (.dup, 1) := by decide +kernel
theorem dX9_about_104 : decode cX9_about 104 = .ok (.ldc 151, 2) := by decide +kernel
theorem dX9_about_106 : decode cX9_about 106 = .ok (.invokespecial 153, 3) := by decide +kernel
theorem dX9_about_109 : decode cX9_about 109 = .ok (.athrow, 1) := by decide +kernel
theorem dX9_count_0 : decode cX9_count 0 = .ok (.iload_n 1, 1) := by decide +kernel
theorem dX9_count_1 : decode cX9_count 1 = .ok (.tableswitch 75 0 5 #[39, 47, 55, 60, 65, 70], 39) := by decide +kernel
theorem dX9_count_40 : decode cX9_count 40 = .ok (.aload_n 0, 1) := by decide +kernel
theorem dX9_count_41 : decode cX9_count 41 = .ok (.getfield 10, 3) := by decide +kernel
theorem dX9_count_44 : decode cX9_count 44 = .ok (.getfield 89, 3) := by decide +kernel
theorem dX9_count_47 : decode cX9_count 47 = .ok (.ireturn, 1) := by decide +kernel
theorem dX9_count_48 : decode cX9_count 48 = .ok (.aload_n 0, 1) := by decide +kernel
theorem dX9_count_49 : decode cX9_count 49 = .ok (.getfield 10, 3) := by decide +kernel
theorem dX9_count_52 : decode cX9_count 52 = .ok (.getfield 233, 3) := by decide +kernel
theorem dX9_count_55 : decode cX9_count 55 = .ok (.ireturn, 1) := by decide +kernel
theorem dX9_count_56 : decode cX9_count 56 = .ok (.aload_n 0, 1) := by decide +kernel
theorem dX9_count_57 : decode cX9_count 57 = .ok (.getfield 92, 3) := by decide +kernel
theorem dX9_count_60 : decode cX9_count 60 = .ok (.ireturn, 1) := by decide +kernel
theorem dX9_count_61 : decode cX9_count 61 = .ok (.aload_n 0, 1) := by decide +kernel
theorem dX9_count_62 : decode cX9_count 62 = .ok (.getfield 68, 3) := by decide +kernel
theorem dX9_count_65 : decode cX9_count 65 = .ok (.ireturn, 1) := by decide +kernel
theorem dX9_count_66 : decode cX9_count 66 = .ok (.aload_n 0, 1) := by decide +kernel
theorem dX9_count_67 : decode cX9_count 67 = .ok (.getfield 124, 3) := by decide +kernel
theorem dX9_count_70 : decode cX9_count 70 = .ok (.ireturn, 1) := by decide +kernel
theorem dX9_count_71 : decode cX9_count 71 = .ok (.aload_n 0, 1) := by decide +kernel
theorem dX9_count_72 : decode cX9_count 72 = .ok (.getfield 143, 3) := by decide +kernel
theorem dX9_count_75 : decode cX9_count 75 = .ok (.ireturn, 1) := by decide +kernel
theorem dX9_count_76 : decode cX9_count 76 = .ok (.new 149, 3) := by decide +kernel
theorem dX9_count_79 : decode cX9_count 79 = .ok (.dup, 1) := by decide +kernel
theorem dX9_count_80 : decode cX9_count 80 = .ok (.ldc 151, 2) := by decide +kernel
theorem dX9_count_82 : decode cX9_count 82 = .ok (.invokespecial 153, 3) := by decide +kernel
theorem dX9_count_85 : decode cX9_count 85 = .ok (.athrow, 1) := by decide +kernel
theorem dX9_faded_0 : decode cX9_faded 0 = .ok (.aload_n 0, 1) := by decide +kernel
theorem dX9_faded_1 : decode cX9_faded 1 = .ok (.iload_n 1, 1) := by decide +kernel
theorem dX9_faded_2 : decode cX9_faded 2 = .ok (.invokevirtual 98, 3) := by decide +kernel
theorem dX9_faded_5 : decode cX9_faded 5 = .ok (.astore 4, 2) := by decide +kernel
theorem dX9_faded_7 : decode cX9_faded 7 = .ok (.iload_n 3, 1) := by decide +kernel
theorem dX9_faded_8 : decode cX9_faded 8 = .ok (.ifCond .lt 22, 3) := by decide +kernel
theorem dX9_faded_11 : decode cX9_faded 11 = .ok (.iload_n 3, 1) := by decide +kernel
theorem dX9_faded_12 : decode cX9_faded 12 = .ok (.iconst 1, 1) := by decide +kernel
theorem dX9_faded_13 : decode cX9_faded 13 = .ok (.if_icmp .gt 17, 3) := by decide +kernel
theorem dX9_faded_16 : decode cX9_faded 16 = .ok (.iload_n 2, 1) := by decide +kernel
theorem dX9_faded_17 : decode cX9_faded 17 = .ok (.ifCond .lt 13, 3) := by decide +kernel
theorem dX9_faded_20 : decode cX9_faded 20 = .ok (.iload_n 2, 1) := by decide +kernel
theorem dX9_faded_21 : decode cX9_faded 21 = .ok (.ldc 61, 2) := by decide +kernel
theorem dX9_faded_23 : decode cX9_faded 23 = .ok (.if_icmp .gt 7, 3) := by decide +kernel
theorem dX9_faded_26 : decode cX9_faded 26 = .ok (.iconst 1, 1) := by decide +kernel
theorem dX9_faded_27 : decode cX9_faded 27 = .ok (.goto 4, 3) := by decide +kernel
theorem dX9_faded_30 : decode cX9_faded 30 = .ok (.iconst 0, 1) := by decide +kernel
theorem dX9_faded_31 : decode cX9_faded 31 = .ok (.invokestatic 71, 3) := by decide +kernel
theorem dX9_faded_34 : decode cX9_faded 34 = .ok (.aload 4, 2) := by decide +kernel
theorem dX9_faded_36 : decode cX9_faded 36 = .ok (.iload_n 2, 1) := by decide +kernel
theorem dX9_faded_37 : decode cX9_faded 37 = .ok (.invokevirtual 236, 3) := by decide +kernel
theorem dX9_faded_40 : decode cX9_faded 40 = .ok (.ifCond .ne 5, 3) := by decide +kernel
theorem dX9_faded_43 : decode cX9_faded 43 = .ok (.iconst (-1), 1) := by decide +kernel
theorem dX9_faded_44 : decode cX9_faded 44 = .ok (.ireturn, 1) := by decide +kernel
theorem dX9_faded_45 : decode cX9_faded 45 = .ok (.iload_n 3, 1) := by decide +kernel
theorem dX9_faded_46 : decode cX9_faded 46 = .ok (.ifCond .ne 12, 3) := by decide +kernel
theorem dX9_faded_49 : decode cX9_faded 49 = .ok (.aload 4, 2) := by decide +kernel
theorem dX9_faded_51 : decode cX9_faded 51 = .ok (.iload_n 2, 1) := by decide +kernel
theorem dX9_faded_52 : decode cX9_faded 52 = .ok (.invokevirtual 239, 3) := by decide +kernel
theorem dX9_faded_55 : decode cX9_faded 55 = .ok (.goto 9, 3) := by decide +kernel
theorem dX9_faded_58 : decode cX9_faded 58 = .ok (.aload 4, 2) := by decide +kernel
theorem dX9_faded_60 : decode cX9_faded 60 = .ok (.iload_n 2, 1) := by decide +kernel
theorem dX9_faded_61 : decode cX9_faded 61 = .ok (.invokevirtual 243, 3) := by decide +kernel
theorem dX9_faded_64 : decode cX9_faded 64 = .ok (.ireturn, 1) := by decide +kernel
theorem dX9_matching_0 : decode cX9_matching 0 = .ok (.aload_n 0, 1) := by decide +kernel
theorem dX9_matching_1 : decode cX9_matching 1 = .ok (.iload_n 1, 1) := by decide +kernel
theorem dX9_matching_2 : decode cX9_matching 2 = .ok (.invokevirtual 98, 3) := by decide +kernel
theorem dX9_matching_5 : decode cX9_matching 5 = .ok (.astore_n 3, 1) := by decide +kernel
theorem dX9_matching_6 : decode cX9_matching 6 = .ok (.iload_n 2, 1) := by decide +kernel
theorem dX9_matching_7 : decode cX9_matching 7 = .ok (.ifCond .lt 13, 3) := by decide +kernel
theorem dX9_matching_10 : decode cX9_matching 10 = .ok (.iload_n 2, 1) := by decide +kernel
theorem dX9_matching_11 : decode cX9_matching 11 = .ok (.ldc 61, 2) := by decide +kernel
theorem dX9_matching_13 : decode cX9_matching 13 = .ok (.if_icmp .gt 7, 3) := by decide +kernel
theorem dX9_matching_16 : decode cX9_matching 16 = .ok (.iconst 1, 1) := by decide +kernel
theorem dX9_matching_17 : decode cX9_matching 17 = .ok (.goto 4, 3) := by decide +kernel
theorem dX9_matching_20 : decode cX9_matching 20 = .ok (.iconst 0, 1) := by decide +kernel
theorem dX9_matching_21 : decode cX9_matching 21 = .ok (.invokestatic 71, 3) := by decide +kernel
theorem dX9_matching_24 : decode cX9_matching 24 = .ok (.iconst 0, 1) := by decide +kernel
theorem dX9_matching_25 : decode cX9_matching 25 = .ok (.istore 4, 2) := by decide +kernel
theorem dX9_matching_27 : decode cX9_matching 27 = .ok (.iconst 0, 1) := by decide +kernel
theorem dX9_matching_28 : decode cX9_matching 28 = .ok (.istore 5, 2) := by decide +kernel
theorem dX9_matching_30 : decode cX9_matching 30 = .ok (.iload 5, 2) := by decide +kernel
theorem dX9_matching_32 : decode cX9_matching 32 = .ok (.aload_n 0, 1) := by decide +kernel
theorem dX9_matching_33 : decode cX9_matching 33 = .ok (.getfield 92, 3) := by decide +kernel
theorem dX9_matching_36 : decode cX9_matching 36 = .ok (.if_icmp .ge 58, 3) := by decide +kernel
theorem dX9_matching_39 : decode cX9_matching 39 = .ok (.iload 5, 2) := by decide +kernel
theorem dX9_matching_41 : decode cX9_matching 41 = .ok (.aload_n 0, 1) := by decide +kernel
theorem dX9_matching_42 : decode cX9_matching 42 = .ok (.getfield 18, 3) := by decide +kernel
theorem dX9_matching_45 : decode cX9_matching 45 = .ok (.arraylength, 1) := by decide +kernel
theorem dX9_matching_46 : decode cX9_matching 46 = .ok (.if_icmp .ge 48, 3) := by decide +kernel
theorem dX9_matching_49 : decode cX9_matching 49 = .ok (.aload_n 0, 1) := by decide +kernel
theorem dX9_matching_50 : decode cX9_matching 50 = .ok (.getfield 18, 3) := by decide +kernel
theorem dX9_matching_53 : decode cX9_matching 53 = .ok (.iload 5, 2) := by decide +kernel
theorem dX9_matching_55 : decode cX9_matching 55 = .ok (.aaload, 1) := by decide +kernel
theorem dX9_matching_56 : decode cX9_matching 56 = .ok (.astore 6, 2) := by decide +kernel
theorem dX9_matching_58 : decode cX9_matching 58 = .ok (.aload 6, 2) := by decide +kernel
theorem dX9_matching_60 : decode cX9_matching 60 = .ok (.ifnull 28, 3) := by decide +kernel
theorem dX9_matching_63 : decode cX9_matching 63 = .ok (.iload 5, 2) := by decide +kernel
theorem dX9_matching_65 : decode cX9_matching 65 = .ok (.iload_n 1, 1) := by decide +kernel
theorem dX9_matching_66 : decode cX9_matching 66 = .ok (.if_icmp .eq 22, 3) := by decide +kernel
theorem dX9_matching_69 : decode cX9_matching 69 = .ok (.aload_n 3, 1) := by decide +kernel
theorem dX9_matching_70 : decode cX9_matching 70 = .ok (.aload 6, 2) := by decide +kernel
theorem dX9_matching_72 : decode cX9_matching 72 = .ok (.iload_n 2, 1) := by decide +kernel
theorem dX9_matching_73 : decode cX9_matching 73 = .ok (.invokevirtual 246, 3) := by decide +kernel
theorem dX9_matching_76 : decode cX9_matching 76 = .ok (.ifCond .eq 12, 3) := by decide +kernel
theorem dX9_matching_79 : decode cX9_matching 79 = .ok (.iload 4, 2) := by decide +kernel
theorem dX9_matching_81 : decode cX9_matching 81 = .ok (.iconst 1, 1) := by decide +kernel
theorem dX9_matching_82 : decode cX9_matching 82 = .ok (.iload 5, 2) := by decide +kernel
theorem dX9_matching_84 : decode cX9_matching 84 = .ok (.ishl, 1) := by decide +kernel
theorem dX9_matching_85 : decode cX9_matching 85 = .ok (.ior, 1) := by decide +kernel
theorem dX9_matching_86 : decode cX9_matching 86 = .ok (.istore 4, 2) := by decide +kernel
theorem dX9_matching_88 : decode cX9_matching 88 = .ok (.iinc 5 1, 3) := by decide +kernel
theorem dX9_matching_91 : decode cX9_matching 91 = .ok (.goto (-61), 3) := by decide +kernel
theorem dX9_matching_94 : decode cX9_matching 94 = .ok (.iload 4, 2) := by decide +kernel
theorem dX9_matching_96 : decode cX9_matching 96 = .ok (.ireturn, 1) := by decide +kernel
theorem dX9_clothAt_0 : decode cX9_clothAt 0 = .ok (.iload_n 1, 1) := by decide +kernel
theorem dX9_clothAt_1 : decode cX9_clothAt 1 = .ok (.ifCond .lt 20, 3) := by decide +kernel
theorem dX9_clothAt_4 : decode cX9_clothAt 4 = .ok (.iload_n 1, 1) := by decide +kernel
theorem dX9_clothAt_5 : decode cX9_clothAt 5 = .ok (.aload_n 0, 1) := by decide +kernel
theorem dX9_clothAt_6 : decode cX9_clothAt 6 = .ok (.getfield 92, 3) := by decide +kernel
theorem dX9_clothAt_9 : decode cX9_clothAt 9 = .ok (.if_icmp .ge 12, 3) := by decide +kernel
theorem dX9_clothAt_12 : decode cX9_clothAt 12 = .ok (.iload_n 1, 1) := by decide +kernel
theorem dX9_clothAt_13 : decode cX9_clothAt 13 = .ok (.aload_n 0, 1) := by decide +kernel
theorem dX9_clothAt_14 : decode cX9_clothAt 14 = .ok (.getfield 18, 3) := by decide +kernel
theorem dX9_clothAt_17 : decode cX9_clothAt 17 = .ok (.arraylength, 1) := by decide +kernel
theorem dX9_clothAt_18 : decode cX9_clothAt 18 = .ok (.if_icmp .lt 13, 3) := by decide +kernel
theorem dX9_clothAt_21 : decode cX9_clothAt 21 = .ok (.new 149, 3) := by decide +kernel
theorem dX9_clothAt_24 : decode cX9_clothAt 24 = .ok (.dup, 1) := by decide +kernel
theorem dX9_clothAt_25 : decode cX9_clothAt 25 = .ok (.ldc 250, 2) := by decide +kernel
theorem dX9_clothAt_27 : decode cX9_clothAt 27 = .ok (.invokespecial 153, 3) := by decide +kernel
theorem dX9_clothAt_30 : decode cX9_clothAt 30 = .ok (.athrow, 1) := by decide +kernel
theorem dX9_clothAt_31 : decode cX9_clothAt 31 = .ok (.aload_n 0, 1) := by decide +kernel
theorem dX9_clothAt_32 : decode cX9_clothAt 32 = .ok (.getfield 18, 3) := by decide +kernel
theorem dX9_clothAt_35 : decode cX9_clothAt 35 = .ok (.iload_n 1, 1) := by decide +kernel
theorem dX9_clothAt_36 : decode cX9_clothAt 36 = .ok (.aaload, 1) := by decide +kernel
theorem dX9_clothAt_37 : decode cX9_clothAt 37 = .ok (.astore_n 2, 1) := by decide +kernel
theorem dX9_clothAt_38 : decode cX9_clothAt 38 = .ok (.aload_n 2, 1) := by decide +kernel
theorem dX9_clothAt_39 : decode cX9_clothAt 39 = .ok (.ifnonnull 13, 3) := by decide +kernel
theorem dX9_clothAt_52 : decode cX9_clothAt 52 = .ok (.aload_n 2, 1) := by decide +kernel
theorem dX9_clothAt_53 : decode cX9_clothAt 53 = .ok (.areturn, 1) := by decide +kernel
theorem dX9_demand_0 : decode cX9_demand 0 = .ok (.iload_n 0, 1) := by decide +kernel
theorem dX9_demand_1 : decode cX9_demand 1 = .ok (.ifCond .ne 13, 3) := by decide +kernel
theorem dX9_demand_4 : decode cX9_demand 4 = .ok (.new 252, 3) := by decide +kernel
theorem dX9_demand_7 : decode cX9_demand 7 = .ok (.dup, 1) := by decide +kernel
theorem dX9_demand_8 : decode cX9_demand 8 = .ok (.ldc 254, 2) := by decide +kernel
theorem dX9_demand_10 : decode cX9_demand 10 = .ok (.invokespecial 256, 3) := by decide +kernel
theorem dX9_demand_13 : decode cX9_demand 13 = .ok (.athrow, 1) := by decide +kernel
theorem dX9_demand_14 : decode cX9_demand 14 = .ok (.return_, 1) := by decide +kernel
theorem dX9_append_0 : decode cX9_append 0 = .ok (.bipush 24, 2) := by decide +kernel
theorem dX9_append_2 : decode cX9_append 2 = .ok (.istore_n 2, 1) := by decide +kernel
theorem dX9_append_3 : decode cX9_append 3 = .ok (.iload_n 2, 1) := by decide +kernel
theorem dX9_append_4 : decode cX9_append 4 = .ok (.ifCond .lt 51, 3) := by decide +kernel
theorem dX9_append_7 : decode cX9_append 7 = .ok (.aload_n 0, 1) := by decide +kernel
theorem dX9_append_8 : decode cX9_append 8 = .ok (.getfield 124, 3) := by decide +kernel
theorem dX9_append_11 : decode cX9_append 11 = .ok (.ifCond .lt 38, 3) := by decide +kernel
theorem dX9_append_14 : decode cX9_append 14 = .ok (.aload_n 0, 1) := by decide +kernel
theorem dX9_append_15 : decode cX9_append 15 = .ok (.getfield 124, 3) := by decide +kernel
theorem dX9_append_18 : decode cX9_append 18 = .ok (.aload_n 0, 1) := by decide +kernel
theorem dX9_append_19 : decode cX9_append 19 = .ok (.getfield 22, 3) := by decide +kernel
theorem dX9_append_22 : decode cX9_append 22 = .ok (.arraylength, 1) := by decide +kernel
theorem dX9_append_23 : decode cX9_append 23 = .ok (.if_icmp .ge 26, 3) := by decide +kernel
theorem dX9_append_26 : decode cX9_append 26 = .ok (.aload_n 0, 1) := by decide +kernel
theorem dX9_append_27 : decode cX9_append 27 = .ok (.getfield 22, 3) := by decide +kernel
theorem dX9_append_30 : decode cX9_append 30 = .ok (.aload_n 0, 1) := by decide +kernel
theorem dX9_append_31 : decode cX9_append 31 = .ok (.getfield 124, 3) := by decide +kernel
theorem dX9_append_34 : decode cX9_append 34 = .ok (.iload_n 1, 1) := by decide +kernel
theorem dX9_append_35 : decode cX9_append 35 = .ok (.iload_n 2, 1) := by decide +kernel
theorem dX9_append_36 : decode cX9_append 36 = .ok (.ishr, 1) := by decide +kernel
theorem dX9_append_37 : decode cX9_append 37 = .ok (.i2b, 1) := by decide +kernel
theorem dX9_append_38 : decode cX9_append 38 = .ok (.bastore, 1) := by decide +kernel
theorem dX9_append_39 : decode cX9_append 39 = .ok (.aload_n 0, 1) := by decide +kernel
theorem dX9_append_40 : decode cX9_append 40 = .ok (.dup, 1) := by decide +kernel
theorem dX9_append_41 : decode cX9_append 41 = .ok (.getfield 124, 3) := by decide +kernel
theorem dX9_append_44 : decode cX9_append 44 = .ok (.iconst 1, 1) := by decide +kernel
theorem dX9_append_45 : decode cX9_append 45 = .ok (.iadd, 1) := by decide +kernel
theorem dX9_append_46 : decode cX9_append 46 = .ok (.putfield 124, 3) := by decide +kernel
theorem dX9_append_49 : decode cX9_append 49 = .ok (.iinc 2 (-8), 3) := by decide +kernel
theorem dX9_append_52 : decode cX9_append 52 = .ok (.goto (-49), 3) := by decide +kernel
theorem dX9_append_55 : decode cX9_append 55 = .ok (.return_, 1) := by decide +kernel
theorem dX10_init_0 : decode cX10_init 0 = .ok (.aload_n 0, 1) := by decide +kernel
theorem dX10_init_1 : decode cX10_init 1 = .ok (.invokespecial 1, 3) := by decide +kernel
theorem dX10_init_4 : decode cX10_init 4 = .ok (.aload_n 0, 1) := by decide +kernel
theorem dX10_init_5 : decode cX10_init 5 = .ok (.bipush 6, 2) := by decide +kernel
theorem dX10_init_7 : decode cX10_init 7 = .ok (.newarray .int, 2) := by decide +kernel
theorem dX10_init_9 : decode cX10_init 9 = .ok (.putfield 7, 3) := by decide +kernel
theorem dX10_init_12 : decode cX10_init 12 = .ok (.aload_n 0, 1) := by decide +kernel
theorem dX10_init_13 : decode cX10_init 13 = .ok (.bipush 6, 2) := by decide +kernel
theorem dX10_init_15 : decode cX10_init 15 = .ok (.newarray .int, 2) := by decide +kernel
theorem dX10_init_17 : decode cX10_init 17 = .ok (.putfield 13, 3) := by decide +kernel
theorem dX10_init_20 : decode cX10_init 20 = .ok (.aload_n 0, 1) := by decide +kernel
theorem dX10_init_21 : decode cX10_init 21 = .ok (.bipush 6, 2) := by decide +kernel
theorem dX10_init_23 : decode cX10_init 23 = .ok (.newarray .int, 2) := by decide +kernel
theorem dX10_init_25 : decode cX10_init 25 = .ok (.putfield 16, 3) := by decide +kernel
theorem dX10_init_28 : decode cX10_init 28 = .ok (.aload_n 0, 1) := by decide +kernel
theorem dX10_init_29 : decode cX10_init 29 = .ok (.bipush 6, 2) := by decide +kernel
theorem dX10_init_31 : decode cX10_init 31 = .ok (.newarray .int, 2) := by decide +kernel
theorem dX10_init_33 : decode cX10_init 33 = .ok (.dup, 1) := by decide +kernel
theorem dX10_init_34 : decode cX10_init 34 = .ok (.iconst 0, 1) := by decide +kernel
theorem dX10_init_35 : decode cX10_init 35 = .ok (.iconst 2, 1) := by decide +kernel
theorem dX10_init_36 : decode cX10_init 36 = .ok (.iastore, 1) := by decide +kernel
theorem dX10_init_37 : decode cX10_init 37 = .ok (.dup, 1) := by decide +kernel
theorem dX10_init_38 : decode cX10_init 38 = .ok (.iconst 1, 1) := by decide +kernel
theorem dX10_init_39 : decode cX10_init 39 = .ok (.iconst 2, 1) := by decide +kernel
theorem dX10_init_40 : decode cX10_init 40 = .ok (.iastore, 1) := by decide +kernel
theorem dX10_init_41 : decode cX10_init 41 = .ok (.dup, 1) := by decide +kernel
theorem dX10_init_42 : decode cX10_init 42 = .ok (.iconst 2, 1) := by decide +kernel
theorem dX10_init_43 : decode cX10_init 43 = .ok (.iconst 2, 1) := by decide +kernel
theorem dX10_init_44 : decode cX10_init 44 = .ok (.iastore, 1) := by decide +kernel
theorem dX10_init_45 : decode cX10_init 45 = .ok (.dup, 1) := by decide +kernel
theorem dX10_init_46 : decode cX10_init 46 = .ok (.iconst 3, 1) := by decide +kernel
theorem dX10_init_47 : decode cX10_init 47 = .ok (.iconst 2, 1) := by decide +kernel
theorem dX10_init_48 : decode cX10_init 48 = .ok (.iastore, 1) := by decide +kernel
theorem dX10_init_49 : decode cX10_init 49 = .ok (.dup, 1) := by decide +kernel
theorem dX10_init_50 : decode cX10_init 50 = .ok (.iconst 4, 1) := by decide +kernel
theorem dX10_init_51 : decode cX10_init 51 = .ok (.iconst 2, 1) := by decide +kernel
theorem dX10_init_52 : decode cX10_init 52 = .ok (.iastore, 1) := by decide +kernel
theorem dX10_init_53 : decode cX10_init 53 = .ok (.dup, 1) := by decide +kernel
theorem dX10_init_54 : decode cX10_init 54 = .ok (.iconst 5, 1) := by decide +kernel
theorem dX10_init_55 : decode cX10_init 55 = .ok (.iconst 2, 1) := by decide +kernel
theorem dX10_init_56 : decode cX10_init 56 = .ok (.iastore, 1) := by decide +kernel
theorem dX10_init_57 : decode cX10_init 57 = .ok (.putfield 19, 3) := by decide +kernel
theorem dX10_init_60 : decode cX10_init 60 = .ok (.aload_n 0, 1) := by decide +kernel
theorem dX10_init_61 : decode cX10_init 61 = .ok (.bipush 6, 2) := by decide +kernel
theorem dX10_init_63 : decode cX10_init 63 = .ok (.newarray .int, 2) := by decide +kernel
theorem dX10_init_65 : decode cX10_init 65 = .ok (.putfield 22, 3) := by decide +kernel
theorem dX10_init_68 : decode cX10_init 68 = .ok (.aload_n 0, 1) := by decide +kernel
theorem dX10_init_69 : decode cX10_init 69 = .ok (.bipush 6, 2) := by decide +kernel
theorem dX10_init_71 : decode cX10_init 71 = .ok (.newarray .int, 2) := by decide +kernel
theorem dX10_init_73 : decode cX10_init 73 = .ok (.putfield 25, 3) := by decide +kernel
theorem dX10_init_76 : decode cX10_init 76 = .ok (.aload_n 0, 1) := by decide +kernel
theorem dX10_init_77 : decode cX10_init 77 = .ok (.bipush 6, 2) := by decide +kernel
theorem dX10_init_79 : decode cX10_init 79 = .ok (.newarray .boolean, 2) := by decide +kernel
theorem dX10_init_81 : decode cX10_init 81 = .ok (.putfield 28, 3) := by decide +kernel
theorem dX10_init_84 : decode cX10_init 84 = .ok (.aload_n 0, 1) := by decide +kernel
theorem dX10_init_85 : decode cX10_init 85 = .ok (.bipush 6, 2) := by decide +kernel
theorem dX10_init_87 : decode cX10_init 87 = .ok (.newarray .boolean, 2) := by decide +kernel
theorem dX10_init_89 : decode cX10_init 89 = .ok (.putfield 32, 3) := by decide +kernel
theorem dX10_init_92 : decode cX10_init 92 = .ok (.aload_n 0, 1) := by decide +kernel
theorem dX10_init_93 : decode cX10_init 93 = .ok (.bipush 30, 2) := by decide +kernel
theorem dX10_init_95 : decode cX10_init 95 = .ok (.newarray .int, 2) := by decide +kernel
theorem dX10_init_97 : decode cX10_init 97 = .ok (.putfield 35, 3) := by decide +kernel
theorem dX10_init_100 : decode cX10_init 100 = .ok (.aload_n 0, 1) := by decide +kernel
theorem dX10_init_101 : decode cX10_init 101 = .ok (.bipush 30, 2) := by decide +kernel
theorem dX10_init_103 : decode cX10_init 103 = .ok (.newarray .int, 2) := by decide +kernel
theorem dX10_init_105 : decode cX10_init 105 = .ok (.putfield 38, 3) := by decide +kernel
theorem dX10_init_108 : decode cX10_init 108 = .ok (.aload_n 0, 1) := by decide +kernel
theorem dX10_init_109 : decode cX10_init 109 = .ok (.bipush 30, 2) := by decide +kernel
theorem dX10_init_111 : decode cX10_init 111 = .ok (.newarray .int, 2) := by decide +kernel
theorem dX10_init_113 : decode cX10_init 113 = .ok (.putfield 41, 3) := by decide +kernel
theorem dX10_init_116 : decode cX10_init 116 = .ok (.aload_n 0, 1) := by decide +kernel
theorem dX10_init_117 : decode cX10_init 117 = .ok (.bipush 30, 2) := by decide +kernel
theorem dX10_init_119 : decode cX10_init 119 = .ok (.newarray .int, 2) := by decide +kernel
theorem dX10_init_121 : decode cX10_init 121 = .ok (.putfield 44, 3) := by decide +kernel
theorem dX10_init_124 : decode cX10_init 124 = .ok (.aload_n 0, 1) := by decide +kernel
theorem dX10_init_125 : decode cX10_init 125 = .ok (.bipush 30, 2) := by decide +kernel
theorem dX10_init_127 : decode cX10_init 127 = .ok (.newarray .int, 2) := by decide +kernel
theorem dX10_init_129 : decode cX10_init 129 = .ok (.putfield 47, 3) := by decide +kernel
theorem dX10_init_132 : decode cX10_init 132 = .ok (.aload_n 0, 1) := by decide +kernel
theorem dX10_init_133 : decode cX10_init 133 = .ok (.bipush 30, 2) := by decide +kernel
theorem dX10_init_135 : decode cX10_init 135 = .ok (.newarray .int, 2) := by decide +kernel
theorem dX10_init_137 : decode cX10_init 137 = .ok (.putfield 50, 3) := by decide +kernel
theorem dX10_init_140 : decode cX10_init 140 = .ok (.aload_n 0, 1) := by decide +kernel
theorem dX10_init_141 : decode cX10_init 141 = .ok (.sipush 1500, 3) := by decide +kernel
theorem dX10_init_144 : decode cX10_init 144 = .ok (.newarray .int, 2) := by decide +kernel
theorem dX10_init_146 : decode cX10_init 146 = .ok (.putfield 53, 3) := by decide +kernel
theorem dX10_init_149 : decode cX10_init 149 = .ok (.aload_n 0, 1) := by decide +kernel
theorem dX10_init_150 : decode cX10_init 150 = .ok (.iconst (-1), 1) := by decide +kernel
theorem dX10_init_151 : decode cX10_init 151 = .ok (.putfield 56, 3) := by decide +kernel
theorem dX10_init_154 : decode cX10_init 154 = .ok (.aload_n 0, 1) := by decide +kernel
theorem dX10_init_155 : decode cX10_init 155 = .ok (.sipush 2700, 3) := by decide +kernel
theorem dX10_init_158 : decode cX10_init 158 = .ok (.newarray .int, 2) := by decide +kernel
theorem dX10_init_160 : decode cX10_init 160 = .ok (.putfield 60, 3) := by decide +kernel
theorem dX10_init_163 : decode cX10_init 163 = .ok (.aload_n 0, 1) := by decide +kernel
theorem dX10_init_164 : decode cX10_init 164 = .ok (.sipush 2700, 3) := by decide +kernel
theorem dX10_init_167 : decode cX10_init 167 = .ok (.newarray .int, 2) := by decide +kernel
theorem dX10_init_169 : decode cX10_init 169 = .ok (.putfield 63, 3) := by decide +kernel
theorem dX10_init_172 : decode cX10_init 172 = .ok (.aload_n 0, 1) := by decide +kernel
theorem dX10_init_173 : decode cX10_init 173 = .ok (.sipush 2700, 3) := by decide +kernel
theorem dX10_init_176 : decode cX10_init 176 = .ok (.newarray .int, 2) := by decide +kernel
theorem dX10_init_178 : decode cX10_init 178 = .ok (.putfield 66, 3) := by decide +kernel
theorem dX10_init_181 : decode cX10_init 181 = .ok (.aload_n 0, 1) := by decide +kernel
theorem dX10_init_182 : decode cX10_init 182 = .ok (.sipush 2700, 3) := by decide +kernel
theorem dX10_init_185 : decode cX10_init 185 = .ok (.newarray .int, 2) := by decide +kernel
theorem dX10_init_187 : decode cX10_init 187 = .ok (.putfield 69, 3) := by decide +kernel
theorem dX10_init_190 : decode cX10_init 190 = .ok (.aload_n 0, 1) := by decide +kernel
theorem dX10_init_191 : decode cX10_init 191 = .ok (.sipush 2700, 3) := by decide +kernel
theorem dX10_init_194 : decode cX10_init 194 = .ok (.newarray .int, 2) := by decide +kernel
theorem dX10_init_196 : decode cX10_init 196 = .ok (.putfield 72, 3) := by decide +kernel
theorem dX10_init_199 : decode cX10_init 199 = .ok (.aload_n 0, 1) := by decide +kernel
theorem dX10_init_200 : decode cX10_init 200 = .ok (.sipush 2700, 3) := by decide +kernel
theorem dX10_init_203 : decode cX10_init 203 = .ok (.newarray .int, 2) := by decide +kernel
theorem dX10_init_205 : decode cX10_init 205 = .ok (.putfield 75, 3) := by decide +kernel
theorem dX10_init_208 : decode cX10_init 208 = .ok (.aload_n 0, 1) := by decide +kernel
theorem dX10_init_209 : decode cX10_init 209 = .ok (.sipush 2700, 3) := by decide +kernel
theorem dX10_init_212 : decode cX10_init 212 = .ok (.newarray .int, 2) := by decide +kernel
theorem dX10_init_214 : decode cX10_init 214 = .ok (.putfield 78, 3) := by decide +kernel
theorem dX10_init_217 : decode cX10_init 217 = .ok (.aload_n 0, 1) := by decide +kernel
theorem dX10_init_218 : decode cX10_init 218 = .ok (.sipush 2700, 3) := by decide +kernel
theorem dX10_init_221 : decode cX10_init 221 = .ok (.newarray .int, 2) := by decide +kernel
theorem dX10_init_223 : decode cX10_init 223 = .ok (.putfield 81, 3) := by decide +kernel
theorem dX10_init_226 : decode cX10_init 226 = .ok (.aload_n 0, 1) := by decide +kernel
theorem dX10_init_227 : decode cX10_init 227 = .ok (.bipush 8, 2) := by decide +kernel
theorem dX10_init_229 : decode cX10_init 229 = .ok (.newarray .int, 2) := by decide +kernel
theorem dX10_init_231 : decode cX10_init 231 = .ok (.putfield 84, 3) := by decide +kernel
theorem dX10_init_234 : decode cX10_init 234 = .ok (.aload_n 0, 1) := by decide +kernel
theorem dX10_init_235 : decode cX10_init 235 = .ok (.bipush 8, 2) := by decide +kernel
theorem dX10_init_237 : decode cX10_init 237 = .ok (.newarray .int, 2) := by decide +kernel
theorem dX10_init_239 : decode cX10_init 239 = .ok (.putfield 87, 3) := by decide +kernel
theorem dX10_init_242 : decode cX10_init 242 = .ok (.aload_n 0, 1) := by decide +kernel
theorem dX10_init_243 : decode cX10_init 243 = .ok (.iconst (-1), 1) := by decide +kernel
theorem dX10_init_244 : decode cX10_init 244 = .ok (.putfield 90, 3) := by decide +kernel
theorem dX10_init_247 : decode cX10_init 247 = .ok (.aload_n 0, 1) := by decide +kernel
theorem dX10_init_248 : decode cX10_init 248 = .ok (.iconst 3, 1) := by decide +kernel
theorem dX10_init_249 : decode cX10_init 249 = .ok (.newarray .int, 2) := by decide +kernel
theorem dX10_init_251 : decode cX10_init 251 = .ok (.putfield 93, 3) := by decide +kernel
theorem dX10_init_254 : decode cX10_init 254 = .ok (.aload_n 0, 1) := by decide +kernel
theorem dX10_init_255 : decode cX10_init 255 = .ok (.iconst 3, 1) := by decide +kernel
theorem dX10_init_256 : decode cX10_init 256 = .ok (.newarray .int, 2) := by decide +kernel
theorem dX10_init_258 : decode cX10_init 258 = .ok (.putfield 96, 3) := by decide +kernel
theorem dX10_init_261 : decode cX10_init 261 = .ok (.aload_n 0, 1) := by decide +kernel
theorem dX10_init_262 : decode cX10_init 262 = .ok (.iconst 3, 1) := by decide +kernel
theorem dX10_init_263 : decode cX10_init 263 = .ok (.newarray .int, 2) := by decide +kernel
theorem dX10_init_265 : decode cX10_init 265 = .ok (.putfield 99, 3) := by decide +kernel
theorem dX10_init_268 : decode cX10_init 268 = .ok (.aload_n 0, 1) := by decide +kernel
theorem dX10_init_269 : decode cX10_init 269 = .ok (.bipush 104, 2) := by decide +kernel
theorem dX10_init_271 : decode cX10_init 271 = .ok (.newarray .int, 2) := by decide +kernel
theorem dX10_init_273 : decode cX10_init 273 = .ok (.putfield 102, 3) := by decide +kernel
theorem dX10_init_276 : decode cX10_init 276 = .ok (.iconst 0, 1) := by decide +kernel
theorem dX10_init_277 : decode cX10_init 277 = .ok (.istore_n 1, 1) := by decide +kernel
theorem dX10_init_278 : decode cX10_init 278 = .ok (.iload_n 1, 1) := by decide +kernel
theorem dX10_init_279 : decode cX10_init 279 = .ok (.bipush 30, 2) := by decide +kernel
theorem dX10_init_281 : decode cX10_init 281 = .ok (.if_icmp .ge 16, 3) := by decide +kernel
theorem dX10_init_284 : decode cX10_init 284 = .ok (.aload_n 0, 1) := by decide +kernel
theorem dX10_init_285 : decode cX10_init 285 = .ok (.getfield 44, 3) := by decide +kernel
theorem dX10_init_288 : decode cX10_init 288 = .ok (.iload_n 1, 1) := by decide +kernel
theorem dX10_init_289 : decode cX10_init 289 = .ok (.iconst (-1), 1) := by decide +kernel
theorem dX10_init_290 : decode cX10_init 290 = .ok (.iastore, 1) := by decide +kernel
theorem dX10_init_291 : decode cX10_init 291 = .ok (.iinc 1 1, 3) := by decide +kernel
theorem dX10_init_294 : decode cX10_init 294 = .ok (.goto (-16), 3) := by decide +kernel
theorem dX10_init_297 : decode cX10_init 297 = .ok (.iconst 0, 1) := by decide +kernel
theorem dX10_init_298 : decode cX10_init 298 = .ok (.istore_n 1, 1) := by decide +kernel
theorem dX10_init_299 : decode cX10_init 299 = .ok (.iload_n 1, 1) := by decide +kernel
theorem dX10_init_300 : decode cX10_init 300 = .ok (.bipush 8, 2) := by decide +kernel
theorem dX10_init_302 : decode cX10_init 302 = .ok (.if_icmp .ge 16, 3) := by decide +kernel
theorem dX10_init_305 : decode cX10_init 305 = .ok (.aload_n 0, 1) := by decide +kernel
theorem dX10_init_306 : decode cX10_init 306 = .ok (.getfield 84, 3) := by decide +kernel
theorem dX10_init_309 : decode cX10_init 309 = .ok (.iload_n 1, 1) := by decide +kernel
theorem dX10_init_310 : decode cX10_init 310 = .ok (.iconst (-1), 1) := by decide +kernel
theorem dX10_init_311 : decode cX10_init 311 = .ok (.iastore, 1) := by decide +kernel
theorem dX10_init_312 : decode cX10_init 312 = .ok (.iinc 1 1, 3) := by decide +kernel
theorem dX10_init_315 : decode cX10_init 315 = .ok (.goto (-16), 3) := by decide +kernel
theorem dX10_init_318 : decode cX10_init 318 = .ok (.return_, 1) := by decide +kernel
theorem dX10_thrown_0 : decode cX10_thrown 0 = .ok (.aload_n 0, 1) := by decide +kernel
theorem dX10_thrown_1 : decode cX10_thrown 1 = .ok (.getfield 105, 3) := by decide +kernel
theorem dX10_thrown_4 : decode cX10_thrown 4 = .ok (.ireturn, 1) := by decide +kernel
theorem dX10_right_0 : decode cX10_right 0 = .ok (.aload_n 0, 1) := by decide +kernel
theorem dX10_right_1 : decode cX10_right 1 = .ok (.getfield 105, 3) := by decide +kernel
theorem dX10_right_4 : decode cX10_right 4 = .ok (.ifCond .ne 12, 3) := by decide +kernel
theorem dX10_right_7 : decode cX10_right 7 = .ok (.iload_n 1, 1) := by decide +kernel
theorem dX10_right_8 : decode cX10_right 8 = .ok (.ifCond .ne 8, 3) := by decide +kernel
theorem dX10_right_11 : decode cX10_right 11 = .ok (.aload_n 0, 1) := by decide +kernel
theorem dX10_right_12 : decode cX10_right 12 = .ok (.iload_n 2, 1) := by decide +kernel
theorem dX10_right_13 : decode cX10_right 13 = .ok (.putfield 105, 3) := by decide +kernel
theorem dX10_right_16 : decode cX10_right 16 = .ok (.aload_n 0, 1) := by decide +kernel
theorem dX10_right_17 : decode cX10_right 17 = .ok (.getfield 105, 3) := by decide +kernel
theorem dX10_right_20 : decode cX10_right 20 = .ok (.ifCond .ne 7, 3) := by decide +kernel
theorem dX10_right_23 : decode cX10_right 23 = .ok (.iconst 1, 1) := by decide +kernel
theorem dX10_right_24 : decode cX10_right 24 = .ok (.goto 4, 3) := by decide +kernel
theorem dX10_right_27 : decode cX10_right 27 = .ok (.iconst 0, 1) := by decide +kernel
theorem dX10_right_28 : decode cX10_right 28 = .ok (.ireturn, 1) := by decide +kernel
theorem dX10_isVat_0 : decode cX10_isVat 0 = .ok (.aload_n 0, 1) := by decide +kernel
theorem dX10_isVat_1 : decode cX10_isVat 1 = .ok (.iconst 0, 1) := by decide +kernel
theorem dX10_isVat_2 : decode cX10_isVat 2 = .ok (.putfield 105, 3) := by decide +kernel
theorem dX10_isVat_5 : decode cX10_isVat 5 = .ok (.aload_n 0, 1) := by decide +kernel
theorem dX10_isVat_6 : decode cX10_isVat 6 = .ok (.iload_n 1, 1) := by decide +kernel
theorem dX10_isVat_7 : decode cX10_isVat 7 = .ok (.ifCond .lt 13, 3) := by decide +kernel
theorem dX10_isVat_10 : decode cX10_isVat 10 = .ok (.iload_n 1, 1) := by decide +kernel
theorem dX10_isVat_11 : decode cX10_isVat 11 = .ok (.bipush 6, 2) := by decide +kernel
theorem dX10_isVat_13 : decode cX10_isVat 13 = .ok (.if_icmp .ge 7, 3) := by decide +kernel
theorem dX10_isVat_16 : decode cX10_isVat 16 = .ok (.iconst 1, 1) := by decide +kernel
theorem dX10_isVat_17 : decode cX10_isVat 17 = .ok (.goto 4, 3) := by decide +kernel
theorem dX10_isVat_20 : decode cX10_isVat 20 = .ok (.iconst 0, 1) := by decide +kernel
theorem dX10_isVat_21 : decode cX10_isVat 21 = .ok (.iconst 1, 1) := by decide +kernel
theorem dX10_isVat_22 : decode cX10_isVat 22 = .ok (.invokevirtual 108, 3) := by decide +kernel
theorem dX10_isVat_25 : decode cX10_isVat 25 = .ok (.ireturn, 1) := by decide +kernel
theorem dX10_isCloth_0 : decode cX10_isCloth 0 = .ok (.aload_n 0, 1) := by decide +kernel
theorem dX10_isCloth_1 : decode cX10_isCloth 1 = .ok (.iconst 0, 1) := by decide +kernel
theorem dX10_isCloth_2 : decode cX10_isCloth 2 = .ok (.putfield 105, 3) := by decide +kernel
theorem dX10_isCloth_5 : decode cX10_isCloth 5 = .ok (.aload_n 0, 1) := by decide +kernel
theorem dX10_isCloth_6 : decode cX10_isCloth 6 = .ok (.iload_n 1, 1) := by decide +kernel
theorem dX10_isCloth_7 : decode cX10_isCloth 7 = .ok (.ifCond .lt 15, 3) := by decide +kernel
theorem dX10_isCloth_10 : decode cX10_isCloth 10 = .ok (.iload_n 1, 1) := by decide +kernel
theorem dX10_isCloth_11 : decode cX10_isCloth 11 = .ok (.aload_n 0, 1) := by decide +kernel
theorem dX10_isCloth_12 : decode cX10_isCloth 12 = .ok (.getfield 112, 3) := by decide +kernel
theorem dX10_isCloth_15 : decode cX10_isCloth 15 = .ok (.if_icmp .ge 7, 3) := by decide +kernel
theorem dX10_isCloth_18 : decode cX10_isCloth 18 = .ok (.iconst 1, 1) := by decide +kernel
theorem dX10_isCloth_19 : decode cX10_isCloth 19 = .ok (.goto 4, 3) := by decide +kernel
theorem dX10_isCloth_22 : decode cX10_isCloth 22 = .ok (.iconst 0, 1) := by decide +kernel
theorem dX10_isCloth_23 : decode cX10_isCloth 23 = .ok (.iconst 1, 1) := by decide +kernel
theorem dX10_isCloth_24 : decode cX10_isCloth 24 = .ok (.invokevirtual 108, 3) := by decide +kernel
theorem dX10_isCloth_27 : decode cX10_isCloth 27 = .ok (.ireturn, 1) := by decide +kernel
theorem dX10_isDry_0 : decode cX10_isDry 0 = .ok (.aload_n 0, 1) := by decide +kernel
theorem dX10_isDry_1 : decode cX10_isDry 1 = .ok (.getfield 44, 3) := by decide +kernel
theorem dX10_isDry_4 : decode cX10_isDry 4 = .ok (.iload_n 1, 1) := by decide +kernel
theorem dX10_isDry_5 : decode cX10_isDry 5 = .ok (.iaload, 1) := by decide +kernel
theorem dX10_isDry_6 : decode cX10_isDry 6 = .ok (.iconst (-1), 1) := by decide +kernel
theorem dX10_isDry_7 : decode cX10_isDry 7 = .ok (.if_icmp .eq 7, 3) := by decide +kernel
theorem dX10_isDry_10 : decode cX10_isDry 10 = .ok (.iconst 1, 1) := by decide +kernel
theorem dX10_isDry_11 : decode cX10_isDry 11 = .ok (.goto 4, 3) := by decide +kernel
theorem dX10_isDry_14 : decode cX10_isDry 14 = .ok (.iconst 0, 1) := by decide +kernel
theorem dX10_isDry_15 : decode cX10_isDry 15 = .ok (.ireturn, 1) := by decide +kernel
theorem dX10_shadeOf_0 : decode cX10_shadeOf 0 = .ok (.aload_n 0, 1) := by decide +kernel
theorem dX10_shadeOf_1 : decode cX10_shadeOf 1 = .ok (.getfield 41, 3) := by decide +kernel
theorem dX10_shadeOf_4 : decode cX10_shadeOf 4 = .ok (.iload_n 1, 1) := by decide +kernel
theorem dX10_shadeOf_5 : decode cX10_shadeOf 5 = .ok (.iaload, 1) := by decide +kernel
theorem dX10_shadeOf_6 : decode cX10_shadeOf 6 = .ok (.aload_n 0, 1) := by decide +kernel
theorem dX10_shadeOf_7 : decode cX10_shadeOf 7 = .ok (.getfield 35, 3) := by decide +kernel
theorem dX10_shadeOf_10 : decode cX10_shadeOf 10 = .ok (.iload_n 1, 1) := by decide +kernel
theorem dX10_shadeOf_11 : decode cX10_shadeOf 11 = .ok (.iaload, 1) := by decide +kernel
theorem dX10_shadeOf_12 : decode cX10_shadeOf 12 = .ok (.idiv, 1) := by decide +kernel
theorem dX10_shadeOf_13 : decode cX10_shadeOf 13 = .ok (.ireturn, 1) := by decide +kernel
theorem dX10_charge_0 : decode cX10_charge 0 = .ok (.aload_n 0, 1) := by decide +kernel
theorem dX10_charge_1 : decode cX10_charge 1 = .ok (.iload_n 1, 1) := by decide +kernel
theorem dX10_charge_2 : decode cX10_charge 2 = .ok (.invokevirtual 115, 3) := by decide +kernel
theorem dX10_charge_5 : decode cX10_charge 5 = .ok (.ifCond .ne 5, 3) := by decide +kernel
theorem dX10_charge_8 : decode cX10_charge 8 = .ok (.iconst 0, 1) := by decide +kernel
theorem dX10_charge_9 : decode cX10_charge 9 = .ok (.ireturn, 1) := by decide +kernel
theorem dX10_charge_10 : decode cX10_charge 10 = .ok (.iload_n 2, 1) := by decide +kernel
theorem dX10_charge_11 : decode cX10_charge 11 = .ok (.iconst 1, 1) := by decide +kernel
theorem dX10_charge_12 : decode cX10_charge 12 = .ok (.if_icmp .lt 16, 3) := by decide +kernel
theorem dX10_charge_15 : decode cX10_charge 15 = .ok (.iload_n 2, 1) := by decide +kernel
theorem dX10_charge_16 : decode cX10_charge 16 = .ok (.ldc 119, 2) := by decide +kernel
theorem dX10_charge_18 : decode cX10_charge 18 = .ok (.aload_n 0, 1) := by decide +kernel
theorem dX10_charge_19 : decode cX10_charge 19 = .ok (.getfield 7, 3) := by decide +kernel
theorem dX10_charge_22 : decode cX10_charge 22 = .ok (.iload_n 1, 1) := by decide +kernel
theorem dX10_charge_23 : decode cX10_charge 23 = .ok (.iaload, 1) := by decide +kernel
theorem dX10_charge_24 : decode cX10_charge 24 = .ok (.isub, 1) := by decide +kernel
theorem dX10_charge_25 : decode cX10_charge 25 = .ok (.if_icmp .le 5, 3) := by decide +kernel
theorem dX10_charge_28 : decode cX10_charge 28 = .ok (.iconst (-1), 1) := by decide +kernel
theorem dX10_charge_29 : decode cX10_charge 29 = .ok (.ireturn, 1) := by decide +kernel
theorem dX10_charge_30 : decode cX10_charge 30 = .ok (.aload_n 0, 1) := by decide +kernel
theorem dX10_charge_31 : decode cX10_charge 31 = .ok (.getfield 7, 3) := by decide +kernel
theorem dX10_charge_34 : decode cX10_charge 34 = .ok (.iload_n 1, 1) := by decide +kernel
theorem dX10_charge_35 : decode cX10_charge 35 = .ok (.dup2, 1) := by decide +kernel
theorem dX10_charge_36 : decode cX10_charge 36 = .ok (.iaload, 1) := by decide +kernel
theorem dX10_charge_37 : decode cX10_charge 37 = .ok (.iload_n 2, 1) := by decide +kernel
theorem dX10_charge_38 : decode cX10_charge 38 = .ok (.iadd, 1) := by decide +kernel
theorem dX10_charge_39 : decode cX10_charge 39 = .ok (.iastore, 1) := by decide +kernel
theorem dX10_charge_40 : decode cX10_charge 40 = .ok (.aload_n 0, 1) := by decide +kernel
theorem dX10_charge_41 : decode cX10_charge 41 = .ok (.dup, 1) := by decide +kernel
theorem dX10_charge_42 : decode cX10_charge 42 = .ok (.getfield 120, 3) := by decide +kernel
theorem dX10_charge_45 : decode cX10_charge 45 = .ok (.iload_n 2, 1) := by decide +kernel
theorem dX10_charge_46 : decode cX10_charge 46 = .ok (.iadd, 1) := by decide +kernel
theorem dX10_charge_47 : decode cX10_charge 47 = .ok (.putfield 120, 3) := by decide +kernel
theorem dX10_charge_50 : decode cX10_charge 50 = .ok (.aload_n 0, 1) := by decide +kernel
theorem dX10_charge_51 : decode cX10_charge 51 = .ok (.getfield 7, 3) := by decide +kernel
theorem dX10_charge_54 : decode cX10_charge 54 = .ok (.iload_n 1, 1) := by decide +kernel
theorem dX10_charge_55 : decode cX10_charge 55 = .ok (.iaload, 1) := by decide +kernel
theorem dX10_charge_56 : decode cX10_charge 56 = .ok (.ireturn, 1) := by decide +kernel
theorem dX10_feeds_0 : decode cX10_feeds 0 = .ok (.aload_n 0, 1) := by decide +kernel
theorem dX10_feeds_1 : decode cX10_feeds 1 = .ok (.getfield 13, 3) := by decide +kernel
theorem dX10_feeds_4 : decode cX10_feeds 4 = .ok (.iload_n 1, 1) := by decide +kernel
theorem dX10_feeds_5 : decode cX10_feeds 5 = .ok (.dup2, 1) := by decide +kernel
theorem dX10_feeds_6 : decode cX10_feeds 6 = .ok (.iaload, 1) := by decide +kernel
theorem dX10_feeds_7 : decode cX10_feeds 7 = .ok (.iload_n 2, 1) := by decide +kernel
theorem dX10_feeds_8 : decode cX10_feeds 8 = .ok (.iadd, 1) := by decide +kernel
theorem dX10_feeds_9 : decode cX10_feeds 9 = .ok (.iastore, 1) := by decide +kernel
theorem dX10_feeds_10 : decode cX10_feeds 10 = .ok (.aload_n 0, 1) := by decide +kernel
theorem dX10_feeds_11 : decode cX10_feeds 11 = .ok (.getfield 13, 3) := by decide +kernel
theorem dX10_feeds_14 : decode cX10_feeds 14 = .ok (.iload_n 1, 1) := by decide +kernel
theorem dX10_feeds_15 : decode cX10_feeds 15 = .ok (.iaload, 1) := by decide +kernel
theorem dX10_feeds_16 : decode cX10_feeds 16 = .ok (.sipush 1000, 3) := by decide +kernel
theorem dX10_feeds_19 : decode cX10_feeds 19 = .ok (.if_icmp .gt 5, 3) := by decide +kernel
theorem dX10_feeds_22 : decode cX10_feeds 22 = .ok (.iconst 0, 1) := by decide +kernel
theorem dX10_feeds_23 : decode cX10_feeds 23 = .ok (.ireturn, 1) := by decide +kernel
theorem dX10_feeds_24 : decode cX10_feeds 24 = .ok (.aload_n 0, 1) := by decide +kernel
theorem dX10_feeds_25 : decode cX10_feeds 25 = .ok (.getfield 13, 3) := by decide +kernel
theorem dX10_feeds_28 : decode cX10_feeds 28 = .ok (.iload_n 1, 1) := by decide +kernel
theorem dX10_feeds_29 : decode cX10_feeds 29 = .ok (.sipush 1000, 3) := by decide +kernel
theorem dX10_feeds_32 : decode cX10_feeds 32 = .ok (.iastore, 1) := by decide +kernel
theorem dX10_feeds_33 : decode cX10_feeds 33 = .ok (.aload_n 0, 1) := by decide +kernel
theorem dX10_feeds_34 : decode cX10_feeds 34 = .ok (.getfield 19, 3) := by decide +kernel
theorem dX10_feeds_37 : decode cX10_feeds 37 = .ok (.iload_n 1, 1) := by decide +kernel
theorem dX10_feeds_38 : decode cX10_feeds 38 = .ok (.iconst 2, 1) := by decide +kernel
theorem dX10_feeds_39 : decode cX10_feeds 39 = .ok (.iastore, 1) := by decide +kernel
theorem dX10_feeds_40 : decode cX10_feeds 40 = .ok (.iconst 1, 1) := by decide +kernel
theorem dX10_feeds_41 : decode cX10_feeds 41 = .ok (.ireturn, 1) := by decide +kernel
theorem dX10_feed_0 : decode cX10_feed 0 = .ok (.aload_n 0, 1) := by decide +kernel
theorem dX10_feed_1 : decode cX10_feed 1 = .ok (.iload_n 1, 1) := by decide +kernel
theorem dX10_feed_2 : decode cX10_feed 2 = .ok (.invokevirtual 115, 3) := by decide +kernel
theorem dX10_feed_5 : decode cX10_feed 5 = .ok (.ifCond .eq 28, 3) := by decide +kernel
theorem dX10_feed_8 : decode cX10_feed 8 = .ok (.aload_n 0, 1) := by decide +kernel
theorem dX10_feed_9 : decode cX10_feed 9 = .ok (.iload_n 2, 1) := by decide +kernel
theorem dX10_feed_10 : decode cX10_feed 10 = .ok (.iconst 1, 1) := by decide +kernel
theorem dX10_feed_11 : decode cX10_feed 11 = .ok (.if_icmp .lt 14, 3) := by decide +kernel
theorem dX10_feed_14 : decode cX10_feed 14 = .ok (.iload_n 2, 1) := by decide +kernel
theorem dX10_feed_15 : decode cX10_feed 15 = .ok (.sipush 1000, 3) := by decide +kernel
theorem dX10_feed_18 : decode cX10_feed 18 = .ok (.if_icmp .gt 7, 3) := by decide +kernel
theorem dX10_feed_21 : decode cX10_feed 21 = .ok (.iconst 1, 1) := by decide +kernel
theorem dX10_feed_22 : decode cX10_feed 22 = .ok (.goto 4, 3) := by decide +kernel
theorem dX10_feed_25 : decode cX10_feed 25 = .ok (.iconst 0, 1) := by decide +kernel
theorem dX10_feed_26 : decode cX10_feed 26 = .ok (.iconst 2, 1) := by decide +kernel
theorem dX10_feed_27 : decode cX10_feed 27 = .ok (.invokevirtual 108, 3) := by decide +kernel
theorem dX10_feed_30 : decode cX10_feed 30 = .ok (.ifCond .ne 5, 3) := by decide +kernel
theorem dX10_feed_33 : decode cX10_feed 33 = .ok (.iconst 0, 1) := by decide +kernel
theorem dX10_feed_34 : decode cX10_feed 34 = .ok (.ireturn, 1) := by decide +kernel
theorem dX10_feed_35 : decode cX10_feed 35 = .ok (.aload_n 0, 1) := by decide +kernel
theorem dX10_feed_36 : decode cX10_feed 36 = .ok (.iload_n 1, 1) := by decide +kernel
theorem dX10_feed_37 : decode cX10_feed 37 = .ok (.iload_n 2, 1) := by decide +kernel
theorem dX10_feed_38 : decode cX10_feed 38 = .ok (.invokevirtual 123, 3) := by decide +kernel
theorem dX10_feed_41 : decode cX10_feed 41 = .ok (.pop, 1) := by decide +kernel
theorem dX10_feed_42 : decode cX10_feed 42 = .ok (.aload_n 0, 1) := by decide +kernel
theorem dX10_feed_43 : decode cX10_feed 43 = .ok (.getfield 19, 3) := by decide +kernel
theorem dX10_feed_46 : decode cX10_feed 46 = .ok (.iload_n 1, 1) := by decide +kernel
theorem dX10_feed_47 : decode cX10_feed 47 = .ok (.iaload, 1) := by decide +kernel
theorem dX10_feed_48 : decode cX10_feed 48 = .ok (.ireturn, 1) := by decide +kernel
theorem dX10_limes_0 : decode cX10_limes 0 = .ok (.aload_n 0, 1) := by decide +kernel
theorem dX10_limes_1 : decode cX10_limes 1 = .ok (.getfield 19, 3) := by decide +kernel
theorem dX10_limes_4 : decode cX10_limes 4 = .ok (.iload_n 1, 1) := by decide +kernel
theorem dX10_limes_5 : decode cX10_limes 5 = .ok (.iaload, 1) := by decide +kernel
theorem dX10_limes_6 : decode cX10_limes 6 = .ok (.iconst 2, 1) := by decide +kernel
theorem dX10_limes_7 : decode cX10_limes 7 = .ok (.if_icmp .ne 26, 3) := by decide +kernel
theorem dX10_limes_10 : decode cX10_limes 10 = .ok (.aload_n 0, 1) := by decide +kernel
theorem dX10_limes_11 : decode cX10_limes 11 = .ok (.getfield 16, 3) := by decide +kernel
theorem dX10_limes_14 : decode cX10_limes 14 = .ok (.iload_n 1, 1) := by decide +kernel
theorem dX10_limes_15 : decode cX10_limes 15 = .ok (.iconst 0, 1) := by decide +kernel
theorem dX10_limes_16 : decode cX10_limes 16 = .ok (.iastore, 1) := by decide +kernel
theorem dX10_limes_17 : decode cX10_limes 17 = .ok (.aload_n 0, 1) := by decide +kernel
theorem dX10_limes_18 : decode cX10_limes 18 = .ok (.getfield 13, 3) := by decide +kernel
theorem dX10_limes_21 : decode cX10_limes 21 = .ok (.iload_n 1, 1) := by decide +kernel
theorem dX10_limes_22 : decode cX10_limes 22 = .ok (.iaload, 1) := by decide +kernel
theorem dX10_limes_23 : decode cX10_limes 23 = .ok (.ifCond .le 10, 3) := by decide +kernel
theorem dX10_limes_26 : decode cX10_limes 26 = .ok (.aload_n 0, 1) := by decide +kernel
theorem dX10_limes_27 : decode cX10_limes 27 = .ok (.getfield 19, 3) := by decide +kernel
theorem dX10_limes_30 : decode cX10_limes 30 = .ok (.iload_n 1, 1) := by decide +kernel
theorem dX10_limes_31 : decode cX10_limes 31 = .ok (.iconst 1, 1) := by decide +kernel
theorem dX10_limes_32 : decode cX10_limes 32 = .ok (.iastore, 1) := by decide +kernel
theorem dX10_limes_33 : decode cX10_limes 33 = .ok (.aload_n 0, 1) := by decide +kernel
theorem dX10_limes_34 : decode cX10_limes 34 = .ok (.getfield 13, 3) := by decide +kernel
theorem dX10_limes_37 : decode cX10_limes 37 = .ok (.iload_n 1, 1) := by decide +kernel
theorem dX10_limes_38 : decode cX10_limes 38 = .ok (.dup2, 1) := by decide +kernel
theorem dX10_limes_39 : decode cX10_limes 39 = .ok (.iaload, 1) := by decide +kernel
theorem dX10_limes_40 : decode cX10_limes 40 = .ok (.iconst 2, 1) := by decide +kernel
theorem dX10_limes_41 : decode cX10_limes 41 = .ok (.idiv, 1) := by decide +kernel
theorem dX10_limes_42 : decode cX10_limes 42 = .ok (.iastore, 1) := by decide +kernel
theorem dX10_limes_43 : decode cX10_limes 43 = .ok (.return_, 1) := by decide +kernel
theorem dX10_lime_0 : decode cX10_lime 0 = .ok (.aload_n 0, 1) := by decide +kernel
theorem dX10_lime_1 : decode cX10_lime 1 = .ok (.iload_n 1, 1) := by decide +kernel
theorem dX10_lime_2 : decode cX10_lime 2 = .ok (.invokevirtual 115, 3) := by decide +kernel
theorem dX10_lime_5 : decode cX10_lime 5 = .ok (.ifCond .ne 5, 3) := by decide +kernel
theorem dX10_lime_8 : decode cX10_lime 8 = .ok (.iconst 0, 1) := by decide +kernel
theorem dX10_lime_9 : decode cX10_lime 9 = .ok (.ireturn, 1) := by decide +kernel
theorem dX10_lime_10 : decode cX10_lime 10 = .ok (.aload_n 0, 1) := by decide +kernel
theorem dX10_lime_11 : decode cX10_lime 11 = .ok (.iload_n 1, 1) := by decide +kernel
theorem dX10_lime_12 : decode cX10_lime 12 = .ok (.invokevirtual 127, 3) := by decide +kernel
theorem dX10_lime_15 : decode cX10_lime 15 = .ok (.aload_n 0, 1) := by decide +kernel
theorem dX10_lime_16 : decode cX10_lime 16 = .ok (.getfield 19, 3) := by decide +kernel
theorem dX10_lime_19 : decode cX10_lime 19 = .ok (.iload_n 1, 1) := by decide +kernel
theorem dX10_lime_20 : decode cX10_lime 20 = .ok (.iaload, 1) := by decide +kernel
theorem dX10_lime_21 : decode cX10_lime 21 = .ok (.ireturn, 1) := by decide +kernel
theorem dX10_hour_0 : decode cX10_hour 0 = .ok (.aload_n 0, 1) := by decide +kernel
theorem dX10_hour_1 : decode cX10_hour 1 = .ok (.dup, 1) := by decide +kernel
theorem dX10_hour_2 : decode cX10_hour 2 = .ok (.getfield 131, 3) := by decide +kernel
theorem dX10_hour_5 : decode cX10_hour 5 = .ok (.iconst 1, 1) := by decide +kernel
theorem dX10_hour_6 : decode cX10_hour 6 = .ok (.iadd, 1) := by decide +kernel
theorem dX10_hour_7 : decode cX10_hour 7 = .ok (.putfield 131, 3) := by decide +kernel
theorem dX10_hour_10 : decode cX10_hour 10 = .ok (.iconst 0, 1) := by decide +kernel
theorem dX10_hour_11 : decode cX10_hour 11 = .ok (.istore_n 1, 1) := by decide +kernel
theorem dX10_hour_12 : decode cX10_hour 12 = .ok (.iload_n 1, 1) := by decide +kernel
theorem dX10_hour_13 : decode cX10_hour 13 = .ok (.bipush 6, 2) := by decide +kernel
theorem dX10_hour_15 : decode cX10_hour 15 = .ok (.if_icmp .ge 114, 3) := by decide +kernel
theorem dX10_hour_18 : decode cX10_hour 18 = .ok (.aload_n 0, 1) := by decide +kernel
theorem dX10_hour_19 : decode cX10_hour 19 = .ok (.getfield 13, 3) := by decide +kernel
theorem dX10_hour_22 : decode cX10_hour 22 = .ok (.iload_n 1, 1) := by decide +kernel
theorem dX10_hour_23 : decode cX10_hour 23 = .ok (.aload_n 0, 1) := by decide +kernel
theorem dX10_hour_24 : decode cX10_hour 24 = .ok (.getfield 13, 3) := by decide +kernel
theorem dX10_hour_27 : decode cX10_hour 27 = .ok (.iload_n 1, 1) := by decide +kernel
theorem dX10_hour_28 : decode cX10_hour 28 = .ok (.iaload, 1) := by decide +kernel
theorem dX10_hour_29 : decode cX10_hour 29 = .ok (.iconst 5, 1) := by decide +kernel
theorem dX10_hour_30 : decode cX10_hour 30 = .ok (.if_icmp .le 14, 3) := by decide +kernel
theorem dX10_hour_33 : decode cX10_hour 33 = .ok (.aload_n 0, 1) := by decide +kernel
theorem dX10_hour_34 : decode cX10_hour 34 = .ok (.getfield 13, 3) := by decide +kernel
theorem dX10_hour_37 : decode cX10_hour 37 = .ok (.iload_n 1, 1) := by decide +kernel
theorem dX10_hour_38 : decode cX10_hour 38 = .ok (.iaload, 1) := by decide +kernel
theorem dX10_hour_39 : decode cX10_hour 39 = .ok (.iconst 5, 1) := by decide +kernel
theorem dX10_hour_40 : decode cX10_hour 40 = .ok (.isub, 1) := by decide +kernel
theorem dX10_hour_41 : decode cX10_hour 41 = .ok (.goto 4, 3) := by decide +kernel
theorem dX10_hour_44 : decode cX10_hour 44 = .ok (.iconst 0, 1) := by decide +kernel
theorem dX10_hour_45 : decode cX10_hour 45 = .ok (.iastore, 1) := by decide +kernel
theorem dX10_hour_46 : decode cX10_hour 46 = .ok (.aload_n 0, 1) := by decide +kernel
theorem dX10_hour_47 : decode cX10_hour 47 = .ok (.getfield 13, 3) := by decide +kernel
theorem dX10_hour_50 : decode cX10_hour 50 = .ok (.iload_n 1, 1) := by decide +kernel
theorem dX10_hour_51 : decode cX10_hour 51 = .ok (.iaload, 1) := by decide +kernel
theorem dX10_hour_52 : decode cX10_hour 52 = .ok (.ifCond .ne 10, 3) := by decide +kernel
theorem dX10_hour_55 : decode cX10_hour 55 = .ok (.aload_n 0, 1) := by decide +kernel
theorem dX10_hour_56 : decode cX10_hour 56 = .ok (.getfield 19, 3) := by decide +kernel
theorem dX10_hour_59 : decode cX10_hour 59 = .ok (.iload_n 1, 1) := by decide +kernel
theorem dX10_hour_60 : decode cX10_hour 60 = .ok (.iconst 2, 1) := by decide +kernel
theorem dX10_hour_61 : decode cX10_hour 61 = .ok (.iastore, 1) := by decide +kernel
theorem dX10_hour_62 : decode cX10_hour 62 = .ok (.aload_n 0, 1) := by decide +kernel
theorem dX10_hour_63 : decode cX10_hour 63 = .ok (.getfield 19, 3) := by decide +kernel
theorem dX10_hour_66 : decode cX10_hour 66 = .ok (.iload_n 1, 1) := by decide +kernel
theorem dX10_hour_67 : decode cX10_hour 67 = .ok (.iaload, 1) := by decide +kernel
theorem dX10_hour_68 : decode cX10_hour 68 = .ok (.iconst 2, 1) := by decide +kernel
theorem dX10_hour_69 : decode cX10_hour 69 = .ok (.if_icmp .eq 35, 3) := by decide +kernel
theorem dX10_hour_72 : decode cX10_hour 72 = .ok (.aload_n 0, 1) := by decide +kernel
theorem dX10_hour_73 : decode cX10_hour 73 = .ok (.getfield 28, 3) := by decide +kernel
theorem dX10_hour_76 : decode cX10_hour 76 = .ok (.iload_n 1, 1) := by decide +kernel
theorem dX10_hour_77 : decode cX10_hour 77 = .ok (.baload, 1) := by decide +kernel
theorem dX10_hour_78 : decode cX10_hour 78 = .ok (.ifCond .ne 26, 3) := by decide +kernel
theorem dX10_hour_81 : decode cX10_hour 81 = .ok (.aload_n 0, 1) := by decide +kernel
theorem dX10_hour_82 : decode cX10_hour 82 = .ok (.getfield 32, 3) := by decide +kernel
theorem dX10_hour_85 : decode cX10_hour 85 = .ok (.iload_n 1, 1) := by decide +kernel
theorem dX10_hour_86 : decode cX10_hour 86 = .ok (.baload, 1) := by decide +kernel
theorem dX10_hour_87 : decode cX10_hour 87 = .ok (.ifCond .ne 17, 3) := by decide +kernel
theorem dX10_hour_90 : decode cX10_hour 90 = .ok (.aload_n 0, 1) := by decide +kernel
theorem dX10_hour_91 : decode cX10_hour 91 = .ok (.getfield 19, 3) := by decide +kernel
theorem dX10_hour_94 : decode cX10_hour 94 = .ok (.iload_n 1, 1) := by decide +kernel
theorem dX10_hour_95 : decode cX10_hour 95 = .ok (.iconst 0, 1) := by decide +kernel
theorem dX10_hour_96 : decode cX10_hour 96 = .ok (.iastore, 1) := by decide +kernel
theorem dX10_hour_97 : decode cX10_hour 97 = .ok (.aload_n 0, 1) := by decide +kernel
theorem dX10_hour_98 : decode cX10_hour 98 = .ok (.getfield 16, 3) := by decide +kernel
theorem dX10_hour_101 : decode cX10_hour 101 = .ok (.iload_n 1, 1) := by decide +kernel
theorem dX10_hour_102 : decode cX10_hour 102 = .ok (.iconst 0, 1) := by decide +kernel
theorem dX10_hour_103 : decode cX10_hour 103 = .ok (.iastore, 1) := by decide +kernel
theorem dX10_hour_104 : decode cX10_hour 104 = .ok (.aload_n 0, 1) := by decide +kernel
theorem dX10_hour_105 : decode cX10_hour 105 = .ok (.getfield 32, 3) := by decide +kernel
theorem dX10_hour_108 : decode cX10_hour 108 = .ok (.iload_n 1, 1) := by decide +kernel
theorem dX10_hour_109 : decode cX10_hour 109 = .ok (.aload_n 0, 1) := by decide +kernel
theorem dX10_hour_110 : decode cX10_hour 110 = .ok (.getfield 28, 3) := by decide +kernel
theorem dX10_hour_113 : decode cX10_hour 113 = .ok (.iload_n 1, 1) := by decide +kernel
theorem dX10_hour_114 : decode cX10_hour 114 = .ok (.baload, 1) := by decide +kernel
theorem dX10_hour_115 : decode cX10_hour 115 = .ok (.bastore, 1) := by decide +kernel
theorem dX10_hour_116 : decode cX10_hour 116 = .ok (.aload_n 0, 1) := by decide +kernel
theorem dX10_hour_117 : decode cX10_hour 117 = .ok (.getfield 28, 3) := by decide +kernel
theorem dX10_hour_120 : decode cX10_hour 120 = .ok (.iload_n 1, 1) := by decide +kernel
theorem dX10_hour_121 : decode cX10_hour 121 = .ok (.iconst 0, 1) := by decide +kernel
theorem dX10_hour_122 : decode cX10_hour 122 = .ok (.bastore, 1) := by decide +kernel
theorem dX10_hour_123 : decode cX10_hour 123 = .ok (.iinc 1 1, 3) := by decide +kernel
theorem dX10_hour_126 : decode cX10_hour 126 = .ok (.goto (-114), 3) := by decide +kernel
theorem dX10_hour_129 : decode cX10_hour 129 = .ok (.return_, 1) := by decide +kernel
theorem dX10_hours_0 : decode cX10_hours 0 = .ok (.aload_n 0, 1) := by decide +kernel
theorem dX10_hours_1 : decode cX10_hours 1 = .ok (.iconst 0, 1) := by decide +kernel
theorem dX10_hours_2 : decode cX10_hours 2 = .ok (.putfield 105, 3) := by decide +kernel
theorem dX10_hours_5 : decode cX10_hours 5 = .ok (.aload_n 0, 1) := by decide +kernel
theorem dX10_hours_6 : decode cX10_hours 6 = .ok (.iload_n 1, 1) := by decide +kernel
theorem dX10_hours_7 : decode cX10_hours 7 = .ok (.ifCond .lt 14, 3) := by decide +kernel
theorem dX10_hours_10 : decode cX10_hours 10 = .ok (.iload_n 1, 1) := by decide +kernel
theorem dX10_hours_11 : decode cX10_hours 11 = .ok (.sipush 10000, 3) := by decide +kernel
theorem dX10_hours_14 : decode cX10_hours 14 = .ok (.if_icmp .gt 7, 3) := by decide +kernel
theorem dX10_hours_17 : decode cX10_hours 17 = .ok (.iconst 1, 1) := by decide +kernel
theorem dX10_hours_18 : decode cX10_hours 18 = .ok (.goto 4, 3) := by decide +kernel
theorem dX10_hours_21 : decode cX10_hours 21 = .ok (.iconst 0, 1) := by decide +kernel
theorem dX10_hours_22 : decode cX10_hours 22 = .ok (.iconst 1, 1) := by decide +kernel
theorem dX10_hours_23 : decode cX10_hours 23 = .ok (.invokevirtual 108, 3) := by decide +kernel
theorem dX10_hours_26 : decode cX10_hours 26 = .ok (.ifCond .ne 5, 3) := by decide +kernel
theorem dX10_hours_29 : decode cX10_hours 29 = .ok (.iconst 0, 1) := by decide +kernel
theorem dX10_hours_30 : decode cX10_hours 30 = .ok (.ireturn, 1) := by decide +kernel
theorem dX10_hours_31 : decode cX10_hours 31 = .ok (.iconst 0, 1) := by decide +kernel
theorem dX10_hours_32 : decode cX10_hours 32 = .ok (.istore_n 2, 1) := by decide +kernel
theorem dX10_hours_33 : decode cX10_hours 33 = .ok (.iload_n 2, 1) := by decide +kernel
theorem dX10_hours_34 : decode cX10_hours 34 = .ok (.iload_n 1, 1) := by decide +kernel
theorem dX10_hours_35 : decode cX10_hours 35 = .ok (.if_icmp .ge 13, 3) := by decide +kernel
theorem dX10_hours_38 : decode cX10_hours 38 = .ok (.aload_n 0, 1) := by decide +kernel
theorem dX10_hours_39 : decode cX10_hours 39 = .ok (.invokevirtual 134, 3) := by decide +kernel
theorem dX10_hours_42 : decode cX10_hours 42 = .ok (.iinc 2 1, 3) := by decide +kernel
theorem dX10_hours_45 : decode cX10_hours 45 = .ok (.goto (-12), 3) := by decide +kernel
theorem dX10_hours_48 : decode cX10_hours 48 = .ok (.aload_n 0, 1) := by decide +kernel
theorem dX10_hours_49 : decode cX10_hours 49 = .ok (.getfield 131, 3) := by decide +kernel
theorem dX10_hours_52 : decode cX10_hours 52 = .ok (.ireturn, 1) := by decide +kernel
theorem dX10_cloth_0 : decode cX10_cloth 0 = .ok (.aload_n 0, 1) := by decide +kernel
theorem dX10_cloth_1 : decode cX10_cloth 1 = .ok (.iconst 0, 1) := by decide +kernel
theorem dX10_cloth_2 : decode cX10_cloth 2 = .ok (.putfield 105, 3) := by decide +kernel
theorem dX10_cloth_5 : decode cX10_cloth 5 = .ok (.aload_n 0, 1) := by decide +kernel
theorem dX10_cloth_6 : decode cX10_cloth 6 = .ok (.getfield 112, 3) := by decide +kernel
theorem dX10_cloth_9 : decode cX10_cloth 9 = .ok (.bipush 30, 2) := by decide +kernel
theorem dX10_cloth_11 : decode cX10_cloth 11 = .ok (.if_icmp .eq 14, 3) := by decide +kernel
theorem dX10_cloth_14 : decode cX10_cloth 14 = .ok (.iload_n 1, 1) := by decide +kernel
theorem dX10_cloth_15 : decode cX10_cloth 15 = .ok (.iconst 1, 1) := by decide +kernel
theorem dX10_cloth_16 : decode cX10_cloth 16 = .ok (.if_icmp .lt 9, 3) := by decide +kernel
theorem dX10_cloth_19 : decode cX10_cloth 19 = .ok (.iload_n 1, 1) := by decide +kernel
theorem dX10_cloth_20 : decode cX10_cloth 20 = .ok (.bipush 50, 2) := by decide +kernel
theorem dX10_cloth_22 : decode cX10_cloth 22 = .ok (.if_icmp .le 5, 3) := by decide +kernel
theorem dX10_cloth_25 : decode cX10_cloth 25 = .ok (.iconst (-1), 1) := by decide +kernel
theorem dX10_cloth_26 : decode cX10_cloth 26 = .ok (.ireturn, 1) := by decide +kernel
theorem dX10_cloth_27 : decode cX10_cloth 27 = .ok (.aload_n 0, 1) := by decide +kernel
theorem dX10_cloth_28 : decode cX10_cloth 28 = .ok (.getfield 35, 3) := by decide +kernel
theorem dX10_cloth_31 : decode cX10_cloth 31 = .ok (.aload_n 0, 1) := by decide +kernel
theorem dX10_cloth_32 : decode cX10_cloth 32 = .ok (.getfield 112, 3) := by decide +kernel
theorem dX10_cloth_35 : decode cX10_cloth 35 = .ok (.iload_n 1, 1) := by decide +kernel
theorem dX10_cloth_36 : decode cX10_cloth 36 = .ok (.iastore, 1) := by decide +kernel
theorem dX10_cloth_37 : decode cX10_cloth 37 = .ok (.aload_n 0, 1) := by decide +kernel
theorem dX10_cloth_38 : decode cX10_cloth 38 = .ok (.dup, 1) := by decide +kernel
theorem dX10_cloth_39 : decode cX10_cloth 39 = .ok (.getfield 112, 3) := by decide +kernel
theorem dX10_cloth_42 : decode cX10_cloth 42 = .ok (.iconst 1, 1) := by decide +kernel
theorem dX10_cloth_43 : decode cX10_cloth 43 = .ok (.iadd, 1) := by decide +kernel
theorem dX10_cloth_44 : decode cX10_cloth 44 = .ok (.putfield 112, 3) := by decide +kernel
theorem dX10_cloth_47 : decode cX10_cloth 47 = .ok (.aload_n 0, 1) := by decide +kernel
theorem dX10_cloth_48 : decode cX10_cloth 48 = .ok (.getfield 112, 3) := by decide +kernel
theorem dX10_cloth_51 : decode cX10_cloth 51 = .ok (.iconst 1, 1) := by decide +kernel
theorem dX10_cloth_52 : decode cX10_cloth 52 = .ok (.isub, 1) := by decide +kernel
theorem dX10_cloth_53 : decode cX10_cloth 53 = .ok (.ireturn, 1) := by decide +kernel
theorem dX10_moves_0 : decode cX10_moves 0 = .ok (.aload_n 0, 1) := by decide +kernel
theorem dX10_moves_1 : decode cX10_moves 1 = .ok (.getfield 7, 3) := by decide +kernel
theorem dX10_moves_4 : decode cX10_moves 4 = .ok (.iload_n 2, 1) := by decide +kernel
theorem dX10_moves_5 : decode cX10_moves 5 = .ok (.iaload, 1) := by decide +kernel
theorem dX10_moves_6 : decode cX10_moves 6 = .ok (.iload_n 3, 1) := by decide +kernel
theorem dX10_moves_7 : decode cX10_moves 7 = .ok (.imul, 1) := by decide +kernel
theorem dX10_moves_8 : decode cX10_moves 8 = .ok (.bipush 100, 2) := by decide +kernel
theorem dX10_moves_10 : decode cX10_moves 10 = .ok (.aload_n 0, 1) := by decide +kernel
theorem dX10_moves_11 : decode cX10_moves 11 = .ok (.getfield 35, 3) := by decide +kernel
theorem dX10_moves_14 : decode cX10_moves 14 = .ok (.iload_n 1, 1) := by decide +kernel
theorem dX10_moves_15 : decode cX10_moves 15 = .ok (.iaload, 1) := by decide +kernel
theorem dX10_moves_16 : decode cX10_moves 16 = .ok (.iadd, 1) := by decide +kernel
theorem dX10_moves_17 : decode cX10_moves 17 = .ok (.idiv, 1) := by decide +kernel
theorem dX10_moves_18 : decode cX10_moves 18 = .ok (.istore 4, 2) := by decide +kernel
theorem dX10_moves_20 : decode cX10_moves 20 = .ok (.aload_n 0, 1) := by decide +kernel
theorem dX10_moves_21 : decode cX10_moves 21 = .ok (.getfield 19, 3) := by decide +kernel
theorem dX10_moves_24 : decode cX10_moves 24 = .ok (.iload_n 2, 1) := by decide +kernel
theorem dX10_moves_25 : decode cX10_moves 25 = .ok (.iaload, 1) := by decide +kernel
theorem dX10_moves_26 : decode cX10_moves 26 = .ok (.iconst 1, 1) := by decide +kernel
theorem dX10_moves_27 : decode cX10_moves 27 = .ok (.if_icmp .ne 9, 3) := by decide +kernel
theorem dX10_moves_30 : decode cX10_moves 30 = .ok (.iload 4, 2) := by decide +kernel
theorem dX10_moves_32 : decode cX10_moves 32 = .ok (.iconst 2, 1) := by decide +kernel
theorem dX10_moves_33 : decode cX10_moves 33 = .ok (.idiv, 1) := by decide +kernel
theorem dX10_moves_34 : decode cX10_moves 34 = .ok (.istore 4, 2) := by decide +kernel
theorem dX10_moves_36 : decode cX10_moves 36 = .ok (.sipush 200, 3) := by decide +kernel
theorem dX10_moves_39 : decode cX10_moves 39 = .ok (.aload_n 0, 1) := by decide +kernel
theorem dX10_moves_40 : decode cX10_moves 40 = .ok (.getfield 35, 3) := by decide +kernel
theorem dX10_moves_43 : decode cX10_moves 43 = .ok (.iload_n 1, 1) := by decide +kernel
theorem dX10_moves_44 : decode cX10_moves 44 = .ok (.iaload, 1) := by decide +kernel
theorem dX10_moves_45 : decode cX10_moves 45 = .ok (.imul, 1) := by decide +kernel
theorem dX10_moves_46 : decode cX10_moves 46 = .ok (.aload_n 0, 1) := by decide +kernel
theorem dX10_moves_47 : decode cX10_moves 47 = .ok (.getfield 38, 3) := by decide +kernel
theorem dX10_moves_50 : decode cX10_moves 50 = .ok (.iload_n 1, 1) := by decide +kernel
theorem dX10_moves_51 : decode cX10_moves 51 = .ok (.iaload, 1) := by decide +kernel
theorem dX10_moves_52 : decode cX10_moves 52 = .ok (.isub, 1) := by decide +kernel
theorem dX10_moves_53 : decode cX10_moves 53 = .ok (.aload_n 0, 1) := by decide +kernel
theorem dX10_moves_54 : decode cX10_moves 54 = .ok (.getfield 41, 3) := by decide +kernel
theorem dX10_moves_57 : decode cX10_moves 57 = .ok (.iload_n 1, 1) := by decide +kernel
theorem dX10_moves_58 : decode cX10_moves 58 = .ok (.iaload, 1) := by decide +kernel
theorem dX10_moves_59 : decode cX10_moves 59 = .ok (.isub, 1) := by decide +kernel
theorem dX10_moves_60 : decode cX10_moves 60 = .ok (.istore 5, 2) := by decide +kernel
theorem dX10_moves_62 : decode cX10_moves 62 = .ok (.iload 4, 2) := by decide +kernel
theorem dX10_moves_64 : decode cX10_moves 64 = .ok (.iload 5, 2) := by decide +kernel
theorem dX10_moves_66 : decode cX10_moves 66 = .ok (.if_icmp .ge 8, 3) := by decide +kernel
theorem dX10_moves_69 : decode cX10_moves 69 = .ok (.iload 4, 2) := by decide +kernel
theorem dX10_moves_71 : decode cX10_moves 71 = .ok (.goto 5, 3) := by decide +kernel
theorem dX10_moves_74 : decode cX10_moves 74 = .ok (.iload 5, 2) := by decide +kernel
theorem dX10_moves_76 : decode cX10_moves 76 = .ok (.ireturn, 1) := by decide +kernel
theorem dX10_dips_0 : decode cX10_dips 0 = .ok (.aload_n 0, 1) := by decide +kernel
theorem dX10_dips_1 : decode cX10_dips 1 = .ok (.iload_n 1, 1) := by decide +kernel
theorem dX10_dips_2 : decode cX10_dips 2 = .ok (.iload_n 2, 1) := by decide +kernel
theorem dX10_dips_3 : decode cX10_dips 3 = .ok (.iload_n 3, 1) := by decide +kernel
theorem dX10_dips_4 : decode cX10_dips 4 = .ok (.invokevirtual 137, 3) := by decide +kernel
theorem dX10_dips_7 : decode cX10_dips 7 = .ok (.istore 4, 2) := by decide +kernel
theorem dX10_dips_9 : decode cX10_dips 9 = .ok (.aload_n 0, 1) := by decide +kernel
theorem dX10_dips_10 : decode cX10_dips 10 = .ok (.getfield 7, 3) := by decide +kernel
theorem dX10_dips_13 : decode cX10_dips 13 = .ok (.iload_n 2, 1) := by decide +kernel
theorem dX10_dips_14 : decode cX10_dips 14 = .ok (.dup2, 1) := by decide +kernel
