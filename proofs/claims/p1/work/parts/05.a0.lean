theorem dX0_init_0 : decode cX0_init 0 = .ok (.aload_n 0, 1) := by decide +kernel
theorem dX0_init_1 : decode cX0_init 1 = .ok (.invokespecial 3, 3) := by decide +kernel
theorem dX0_init_4 : decode cX0_init 4 = .ok (.aload_n 0, 1) := by decide +kernel
theorem dX0_init_5 : decode cX0_init 5 = .ok (.iconst (-1), 1) := by decide +kernel
theorem dX0_init_6 : decode cX0_init 6 = .ok (.putfield 9, 3) := by decide +kernel
theorem dX0_init_9 : decode cX0_init 9 = .ok (.aload_n 0, 1) := by decide +kernel
theorem dX0_init_10 : decode cX0_init 10 = .ok (.iload_n 1, 1) := by decide +kernel
theorem dX0_init_11 : decode cX0_init 11 = .ok (.putfield 15, 3) := by decide +kernel
theorem dX0_init_14 : decode cX0_init 14 = .ok (.aload_n 0, 1) := by decide +kernel
theorem dX0_init_15 : decode cX0_init 15 = .ok (.iload_n 2, 1) := by decide +kernel
theorem dX0_init_16 : decode cX0_init 16 = .ok (.putfield 18, 3) := by decide +kernel
theorem dX0_init_19 : decode cX0_init 19 = .ok (.return_, 1) := by decide +kernel
theorem dX1_init_0 : decode cX1_init 0 = .ok (.aload_n 0, 1) := by decide +kernel
theorem dX1_init_1 : decode cX1_init 1 = .ok (.invokespecial 3, 3) := by decide +kernel
theorem dX1_init_4 : decode cX1_init 4 = .ok (.aload_n 0, 1) := by decide +kernel
theorem dX1_init_5 : decode cX1_init 5 = .ok (.bipush 6, 2) := by decide +kernel
theorem dX1_init_7 : decode cX1_init 7 = .ok (.anewarray 9, 3) := by decide +kernel
theorem dX1_init_10 : decode cX1_init 10 = .ok (.putfield 11, 3) := by decide +kernel
theorem dX1_init_13 : decode cX1_init 13 = .ok (.aload_n 0, 1) := by decide +kernel
theorem dX1_init_14 : decode cX1_init 14 = .ok (.new 17, 3) := by decide +kernel
theorem dX1_init_17 : decode cX1_init 17 = .ok (.dup, 1) := by decide +kernel
theorem dX1_init_18 : decode cX1_init 18 = .ok (.iconst 0, 1) := by decide +kernel
theorem dX1_init_19 : decode cX1_init 19 = .ok (.iconst 1, 1) := by decide +kernel
theorem dX1_init_20 : decode cX1_init 20 = .ok (.invokespecial 19, 3) := by decide +kernel
theorem dX1_init_23 : decode cX1_init 23 = .ok (.putfield 22, 3) := by decide +kernel
theorem dX1_init_26 : decode cX1_init 26 = .ok (.aload_n 0, 1) := by decide +kernel
theorem dX1_init_27 : decode cX1_init 27 = .ok (.iconst 3, 1) := by decide +kernel
theorem dX1_init_28 : decode cX1_init 28 = .ok (.newarray .int, 2) := by decide +kernel
theorem dX1_init_30 : decode cX1_init 30 = .ok (.putfield 26, 3) := by decide +kernel
theorem dX1_init_33 : decode cX1_init 33 = .ok (.aload_n 0, 1) := by decide +kernel
theorem dX1_init_34 : decode cX1_init 34 = .ok (.iconst 3, 1) := by decide +kernel
theorem dX1_init_35 : decode cX1_init 35 = .ok (.newarray .int, 2) := by decide +kernel
theorem dX1_init_37 : decode cX1_init 37 = .ok (.putfield 30, 3) := by decide +kernel
theorem dX1_init_40 : decode cX1_init 40 = .ok (.aload_n 0, 1) := by decide +kernel
theorem dX1_init_41 : decode cX1_init 41 = .ok (.iconst 3, 1) := by decide +kernel
theorem dX1_init_42 : decode cX1_init 42 = .ok (.newarray .int, 2) := by decide +kernel
theorem dX1_init_44 : decode cX1_init 44 = .ok (.putfield 33, 3) := by decide +kernel
theorem dX1_init_47 : decode cX1_init 47 = .ok (.aload_n 0, 1) := by decide +kernel
theorem dX1_init_48 : decode cX1_init 48 = .ok (.aload_n 1, 1) := by decide +kernel
theorem dX1_init_49 : decode cX1_init 49 = .ok (.putfield 36, 3) := by decide +kernel
theorem dX1_init_52 : decode cX1_init 52 = .ok (.iconst 0, 1) := by decide +kernel
theorem dX1_init_53 : decode cX1_init 53 = .ok (.istore_n 2, 1) := by decide +kernel
theorem dX1_init_54 : decode cX1_init 54 = .ok (.iload_n 2, 1) := by decide +kernel
theorem dX1_init_55 : decode cX1_init 55 = .ok (.aload_n 0, 1) := by decide +kernel
theorem dX1_init_56 : decode cX1_init 56 = .ok (.getfield 11, 3) := by decide +kernel
theorem dX1_init_59 : decode cX1_init 59 = .ok (.arraylength, 1) := by decide +kernel
theorem dX1_init_60 : decode cX1_init 60 = .ok (.if_icmp .ge 23, 3) := by decide +kernel
theorem dX1_init_63 : decode cX1_init 63 = .ok (.aload_n 0, 1) := by decide +kernel
theorem dX1_init_64 : decode cX1_init 64 = .ok (.getfield 11, 3) := by decide +kernel
theorem dX1_init_67 : decode cX1_init 67 = .ok (.iload_n 2, 1) := by decide +kernel
theorem dX1_init_68 : decode cX1_init 68 = .ok (.new 9, 3) := by decide +kernel
theorem dX1_init_71 : decode cX1_init 71 = .ok (.dup, 1) := by decide +kernel
theorem dX1_init_72 : decode cX1_init 72 = .ok (.iload_n 2, 1) := by decide +kernel
theorem dX1_init_73 : decode cX1_init 73 = .ok (.invokespecial 40, 3) := by decide +kernel
theorem dX1_init_76 : decode cX1_init 76 = .ok (.aastore, 1) := by decide +kernel
theorem dX1_init_77 : decode cX1_init 77 = .ok (.iinc 2 1, 3) := by decide +kernel
theorem dX1_init_80 : decode cX1_init 80 = .ok (.goto (-26), 3) := by decide +kernel
theorem dX1_init_83 : decode cX1_init 83 = .ok (.return_, 1) := by decide +kernel
theorem dX2_init_0 : decode cX2_init 0 = .ok (.aload_n 0, 1) := by decide +kernel
theorem dX2_init_1 : decode cX2_init 1 = .ok (.invokespecial 3, 3) := by decide +kernel
theorem dX2_init_4 : decode cX2_init 4 = .ok (.aload_n 0, 1) := by decide +kernel
theorem dX2_init_5 : decode cX2_init 5 = .ok (.iconst (-1), 1) := by decide +kernel
theorem dX2_init_6 : decode cX2_init 6 = .ok (.putfield 9, 3) := by decide +kernel
theorem dX2_init_9 : decode cX2_init 9 = .ok (.aload_n 0, 1) := by decide +kernel
theorem dX2_init_10 : decode cX2_init 10 = .ok (.new 15, 3) := by decide +kernel
theorem dX2_init_13 : decode cX2_init 13 = .ok (.dup, 1) := by decide +kernel
theorem dX2_init_14 : decode cX2_init 14 = .ok (.aload_n 1, 1) := by decide +kernel
theorem dX2_init_15 : decode cX2_init 15 = .ok (.invokespecial 17, 3) := by decide +kernel
theorem dX2_init_18 : decode cX2_init 18 = .ok (.putfield 20, 3) := by decide +kernel
theorem dX2_init_21 : decode cX2_init 21 = .ok (.return_, 1) := by decide +kernel
theorem dX2_readRecipe_0 : decode cX2_readRecipe 0 = .ok (.aload_n 0, 1) := by decide +kernel
theorem dX2_readRecipe_1 : decode cX2_readRecipe 1 = .ok (.getfield 20, 3) := by decide +kernel
theorem dX2_readRecipe_4 : decode cX2_readRecipe 4 = .ok (.iload_n 1, 1) := by decide +kernel
theorem dX2_readRecipe_5 : decode cX2_readRecipe 5 = .ok (.invokevirtual 24, 3) := by decide +kernel
theorem dX2_readRecipe_8 : decode cX2_readRecipe 8 = .ok (.aload_n 0, 1) := by decide +kernel
theorem dX2_readRecipe_9 : decode cX2_readRecipe 9 = .ok (.iconst 0, 1) := by decide +kernel
theorem dX2_readRecipe_10 : decode cX2_readRecipe 10 = .ok (.putfield 28, 3) := by decide +kernel
theorem dX2_readRecipe_13 : decode cX2_readRecipe 13 = .ok (.aload_n 0, 1) := by decide +kernel
theorem dX2_readRecipe_14 : decode cX2_readRecipe 14 = .ok (.iconst (-1), 1) := by decide +kernel
theorem dX2_readRecipe_15 : decode cX2_readRecipe 15 = .ok (.putfield 9, 3) := by decide +kernel
theorem dX2_readRecipe_18 : decode cX2_readRecipe 18 = .ok (.aload_n 0, 1) := by decide +kernel
theorem dX2_readRecipe_19 : decode cX2_readRecipe 19 = .ok (.iconst 0, 1) := by decide +kernel
theorem dX2_readRecipe_20 : decode cX2_readRecipe 20 = .ok (.putfield 31, 3) := by decide +kernel
theorem dX2_readRecipe_23 : decode cX2_readRecipe 23 = .ok (.aload_n 0, 1) := by decide +kernel
theorem dX2_readRecipe_24 : decode cX2_readRecipe 24 = .ok (.iconst 0, 1) := by decide +kernel
theorem dX2_readRecipe_25 : decode cX2_readRecipe 25 = .ok (.invokevirtual 34, 3) := by decide +kernel
theorem dX2_readRecipe_28 : decode cX2_readRecipe 28 = .ok (.aload_n 0, 1) := by decide +kernel
theorem dX2_readRecipe_29 : decode cX2_readRecipe 29 = .ok (.iconst 0, 1) := by decide +kernel
theorem dX2_readRecipe_30 : decode cX2_readRecipe 30 = .ok (.invokevirtual 37, 3) := by decide +kernel
theorem dX2_readRecipe_33 : decode cX2_readRecipe 33 = .ok (.astore_n 2, 1) := by decide +kernel
theorem dX2_readRecipe_34 : decode cX2_readRecipe 34 = .ok (.aload_n 0, 1) := by decide +kernel
theorem dX2_readRecipe_35 : decode cX2_readRecipe 35 = .ok (.iconst 0, 1) := by decide +kernel
theorem dX2_readRecipe_36 : decode cX2_readRecipe 36 = .ok (.invokevirtual 41, 3) := by decide +kernel
theorem dX2_readRecipe_39 : decode cX2_readRecipe 39 = .ok (.aload_n 2, 1) := by decide +kernel
theorem dX2_readRecipe_40 : decode cX2_readRecipe 40 = .ok (.areturn, 1) := by decide +kernel
theorem dX2_readSteps_0 : decode cX2_readSteps 0 = .ok (.aconst_null, 1) := by decide +kernel
theorem dX2_readSteps_1 : decode cX2_readSteps 1 = .ok (.astore_n 2, 1) := by decide +kernel
theorem dX2_readSteps_2 : decode cX2_readSteps 2 = .ok (.aconst_null, 1) := by decide +kernel
theorem dX2_readSteps_3 : decode cX2_readSteps 3 = .ok (.astore_n 3, 1) := by decide +kernel
theorem dX2_readSteps_4 : decode cX2_readSteps 4 = .ok (.iconst 0, 1) := by decide +kernel
theorem dX2_readSteps_5 : decode cX2_readSteps 5 = .ok (.istore 4, 2) := by decide +kernel
theorem dX2_readSteps_7 : decode cX2_readSteps 7 = .ok (.iload 4, 2) := by decide +kernel
theorem dX2_readSteps_9 : decode cX2_readSteps 9 = .ok (.sipush 300, 3) := by decide +kernel
theorem dX2_readSteps_12 : decode cX2_readSteps 12 = .ok (.if_icmp .gt 59, 3) := by decide +kernel
theorem dX2_readSteps_15 : decode cX2_readSteps 15 = .ok (.aload_n 0, 1) := by decide +kernel
theorem dX2_readSteps_16 : decode cX2_readSteps 16 = .ok (.getfield 28, 3) := by decide +kernel
theorem dX2_readSteps_19 : decode cX2_readSteps 19 = .ok (.ifCond .ne 52, 3) := by decide +kernel
theorem dX2_readSteps_22 : decode cX2_readSteps 22 = .ok (.aload_n 0, 1) := by decide +kernel
theorem dX2_readSteps_23 : decode cX2_readSteps 23 = .ok (.getfield 44, 3) := by decide +kernel
theorem dX2_readSteps_26 : decode cX2_readSteps 26 = .ok (.iconst 1, 1) := by decide +kernel
theorem dX2_readSteps_27 : decode cX2_readSteps 27 = .ok (.if_icmp .lt 44, 3) := by decide +kernel
theorem dX2_readSteps_30 : decode cX2_readSteps 30 = .ok (.aload_n 0, 1) := by decide +kernel
theorem dX2_readSteps_31 : decode cX2_readSteps 31 = .ok (.getfield 44, 3) := by decide +kernel
theorem dX2_readSteps_34 : decode cX2_readSteps 34 = .ok (.bipush 12, 2) := by decide +kernel
theorem dX2_readSteps_36 : decode cX2_readSteps 36 = .ok (.if_icmp .gt 35, 3) := by decide +kernel
theorem dX2_readSteps_39 : decode cX2_readSteps 39 = .ok (.aload_n 0, 1) := by decide +kernel
theorem dX2_readSteps_40 : decode cX2_readSteps 40 = .ok (.iload_n 1, 1) := by decide +kernel
theorem dX2_readSteps_41 : decode cX2_readSteps 41 = .ok (.invokevirtual 47, 3) := by decide +kernel
theorem dX2_readSteps_44 : decode cX2_readSteps 44 = .ok (.astore 5, 2) := by decide +kernel
theorem dX2_readSteps_46 : decode cX2_readSteps 46 = .ok (.aload_n 3, 1) := by decide +kernel
theorem dX2_readSteps_47 : decode cX2_readSteps 47 = .ok (.ifnonnull 9, 3) := by decide +kernel
theorem dX2_readSteps_50 : decode cX2_readSteps 50 = .ok (.aload 5, 2) := by decide +kernel
theorem dX2_readSteps_52 : decode cX2_readSteps 52 = .ok (.astore_n 2, 1) := by decide +kernel
theorem dX2_readSteps_53 : decode cX2_readSteps 53 = .ok (.goto 9, 3) := by decide +kernel
theorem dX2_readSteps_56 : decode cX2_readSteps 56 = .ok (.aload_n 3, 1) := by decide +kernel
theorem dX2_readSteps_57 : decode cX2_readSteps 57 = .ok (.aload 5, 2) := by decide +kernel
theorem dX2_readSteps_59 : decode cX2_readSteps 59 = .ok (.putfield 50, 3) := by decide +kernel
theorem dX2_readSteps_62 : decode cX2_readSteps 62 = .ok (.aload 5, 2) := by decide +kernel
theorem dX2_readSteps_64 : decode cX2_readSteps 64 = .ok (.astore_n 3, 1) := by decide +kernel
theorem dX2_readSteps_65 : decode cX2_readSteps 65 = .ok (.iinc 4 1, 3) := by decide +kernel
theorem dX2_readSteps_68 : decode cX2_readSteps 68 = .ok (.goto (-61), 3) := by decide +kernel
theorem dX2_readSteps_71 : decode cX2_readSteps 71 = .ok (.aload_n 2, 1) := by decide +kernel
theorem dX2_readSteps_72 : decode cX2_readSteps 72 = .ok (.areturn, 1) := by decide +kernel
theorem dX2_pass_0 : decode cX2_pass 0 = .ok (.aload_n 0, 1) := by decide +kernel
theorem dX2_pass_1 : decode cX2_pass 1 = .ok (.getfield 44, 3) := by decide +kernel
theorem dX2_pass_4 : decode cX2_pass 4 = .ok (.iload_n 1, 1) := by decide +kernel
theorem dX2_pass_5 : decode cX2_pass 5 = .ok (.if_icmp .eq 8, 3) := by decide +kernel
theorem dX2_pass_8 : decode cX2_pass 8 = .ok (.aload_n 0, 1) := by decide +kernel
theorem dX2_pass_9 : decode cX2_pass 9 = .ok (.iconst 1, 1) := by decide +kernel
theorem dX2_pass_10 : decode cX2_pass 10 = .ok (.invokevirtual 58, 3) := by decide +kernel
theorem dX2_pass_13 : decode cX2_pass 13 = .ok (.aload_n 0, 1) := by decide +kernel
theorem dX2_pass_14 : decode cX2_pass 14 = .ok (.getfield 28, 3) := by decide +kernel
theorem dX2_pass_17 : decode cX2_pass 17 = .ok (.ifCond .ne 13, 3) := by decide +kernel
theorem dX2_pass_20 : decode cX2_pass 20 = .ok (.aload_n 0, 1) := by decide +kernel
theorem dX2_pass_21 : decode cX2_pass 21 = .ok (.aload_n 0, 1) := by decide +kernel
theorem dX2_pass_22 : decode cX2_pass 22 = .ok (.getfield 101, 3) := by decide +kernel
theorem dX2_pass_25 : decode cX2_pass 25 = .ok (.iconst 1, 1) := by decide +kernel
theorem dX2_pass_26 : decode cX2_pass 26 = .ok (.iadd, 1) := by decide +kernel
theorem dX2_pass_27 : decode cX2_pass 27 = .ok (.invokevirtual 34, 3) := by decide +kernel
theorem dX2_pass_30 : decode cX2_pass 30 = .ok (.return_, 1) := by decide +kernel
theorem dX2_moveTo_0 : decode cX2_moveTo 0 = .ok (.aload_n 0, 1) := by decide +kernel
theorem dX2_moveTo_1 : decode cX2_moveTo 1 = .ok (.iload_n 1, 1) := by decide +kernel
theorem dX2_moveTo_2 : decode cX2_moveTo 2 = .ok (.putfield 101, 3) := by decide +kernel
theorem dX2_moveTo_5 : decode cX2_moveTo 5 = .ok (.aload_n 0, 1) := by decide +kernel
theorem dX2_moveTo_6 : decode cX2_moveTo 6 = .ok (.iload_n 1, 1) := by decide +kernel
theorem dX2_moveTo_7 : decode cX2_moveTo 7 = .ok (.ifCond .lt 38, 3) := by decide +kernel
theorem dX2_moveTo_10 : decode cX2_moveTo 10 = .ok (.iload_n 1, 1) := by decide +kernel
theorem dX2_moveTo_11 : decode cX2_moveTo 11 = .ok (.aload_n 0, 1) := by decide +kernel
theorem dX2_moveTo_12 : decode cX2_moveTo 12 = .ok (.getfield 20, 3) := by decide +kernel
theorem dX2_moveTo_15 : decode cX2_moveTo 15 = .ok (.getfield 108, 3) := by decide +kernel
theorem dX2_moveTo_18 : decode cX2_moveTo 18 = .ok (.if_icmp .ge 27, 3) := by decide +kernel
theorem dX2_moveTo_21 : decode cX2_moveTo 21 = .ok (.iload_n 1, 1) := by decide +kernel
theorem dX2_moveTo_22 : decode cX2_moveTo 22 = .ok (.aload_n 0, 1) := by decide +kernel
theorem dX2_moveTo_23 : decode cX2_moveTo 23 = .ok (.getfield 20, 3) := by decide +kernel
theorem dX2_moveTo_26 : decode cX2_moveTo 26 = .ok (.getfield 111, 3) := by decide +kernel
theorem dX2_moveTo_29 : decode cX2_moveTo 29 = .ok (.arraylength, 1) := by decide +kernel
theorem dX2_moveTo_30 : decode cX2_moveTo 30 = .ok (.if_icmp .ge 15, 3) := by decide +kernel
theorem dX2_moveTo_33 : decode cX2_moveTo 33 = .ok (.aload_n 0, 1) := by decide +kernel
theorem dX2_moveTo_34 : decode cX2_moveTo 34 = .ok (.getfield 20, 3) := by decide +kernel
theorem dX2_moveTo_37 : decode cX2_moveTo 37 = .ok (.getfield 111, 3) := by decide +kernel
theorem dX2_moveTo_40 : decode cX2_moveTo 40 = .ok (.iload_n 1, 1) := by decide +kernel
theorem dX2_moveTo_41 : decode cX2_moveTo 41 = .ok (.iaload, 1) := by decide +kernel
theorem dX2_moveTo_42 : decode cX2_moveTo 42 = .ok (.goto 4, 3) := by decide +kernel
theorem dX2_moveTo_45 : decode cX2_moveTo 45 = .ok (.iconst 0, 1) := by decide +kernel
theorem dX2_moveTo_46 : decode cX2_moveTo 46 = .ok (.putfield 44, 3) := by decide +kernel
theorem dX2_moveTo_49 : decode cX2_moveTo 49 = .ok (.return_, 1) := by decide +kernel
theorem dX3_init_0 : decode cX3_init 0 = .ok (.aload_n 0, 1) := by decide +kernel
theorem dX3_init_1 : decode cX3_init 1 = .ok (.invokespecial 1, 3) := by decide +kernel
theorem dX3_init_4 : decode cX3_init 4 = .ok (.aload_n 0, 1) := by decide +kernel
theorem dX3_init_5 : decode cX3_init 5 = .ok (.aload_n 1, 1) := by decide +kernel
theorem dX3_init_6 : decode cX3_init 6 = .ok (.putfield 7, 3) := by decide +kernel
theorem dX3_init_9 : decode cX3_init 9 = .ok (.return_, 1) := by decide +kernel
theorem dX4_init_0 : decode cX4_init 0 = .ok (.aload_n 0, 1) := by decide +kernel
theorem dX4_init_1 : decode cX4_init 1 = .ok (.invokespecial 3, 3) := by decide +kernel
theorem dX4_init_4 : decode cX4_init 4 = .ok (.aload_n 0, 1) := by decide +kernel
theorem dX4_init_5 : decode cX4_init 5 = .ok (.iconst (-1), 1) := by decide +kernel
theorem dX4_init_6 : decode cX4_init 6 = .ok (.putfield 9, 3) := by decide +kernel
theorem dX4_init_9 : decode cX4_init 9 = .ok (.aload_n 0, 1) := by decide +kernel
theorem dX4_init_10 : decode cX4_init 10 = .ok (.aload_n 1, 1) := by decide +kernel
theorem dX4_init_11 : decode cX4_init 11 = .ok (.putfield 15, 3) := by decide +kernel
theorem dX4_init_14 : decode cX4_init 14 = .ok (.return_, 1) := by decide +kernel
theorem dX6_init_0 : decode cX6_init 0 = .ok (.aload_n 0, 1) := by decide +kernel
theorem dX6_init_1 : decode cX6_init 1 = .ok (.invokespecial 3, 3) := by decide +kernel
theorem dX6_init_4 : decode cX6_init 4 = .ok (.aload_n 0, 1) := by decide +kernel
theorem dX6_init_5 : decode cX6_init 5 = .ok (.sipush 1501, 3) := by decide +kernel
theorem dX6_init_8 : decode cX6_init 8 = .ok (.newarray .int, 2) := by decide +kernel
theorem dX6_init_10 : decode cX6_init 10 = .ok (.putfield 9, 3) := by decide +kernel
theorem dX6_init_13 : decode cX6_init 13 = .ok (.aload_n 0, 1) := by decide +kernel
theorem dX6_init_14 : decode cX6_init 14 = .ok (.sipush 1501, 3) := by decide +kernel
theorem dX6_init_17 : decode cX6_init 17 = .ok (.newarray .int, 2) := by decide +kernel
theorem dX6_init_19 : decode cX6_init 19 = .ok (.putfield 15, 3) := by decide +kernel
theorem dX6_init_22 : decode cX6_init 22 = .ok (.aload_n 0, 1) := by decide +kernel
theorem dX6_init_23 : decode cX6_init 23 = .ok (.sipush 1501, 3) := by decide +kernel
theorem dX6_init_26 : decode cX6_init 26 = .ok (.newarray .int, 2) := by decide +kernel
theorem dX6_init_28 : decode cX6_init 28 = .ok (.putfield 18, 3) := by decide +kernel
theorem dX6_init_31 : decode cX6_init 31 = .ok (.aload_n 0, 1) := by decide +kernel
theorem dX6_init_32 : decode cX6_init 32 = .ok (.aload_n 1, 1) := by decide +kernel
theorem dX6_init_33 : decode cX6_init 33 = .ok (.putfield 21, 3) := by decide +kernel
theorem dX6_init_36 : decode cX6_init 36 = .ok (.return_, 1) := by decide +kernel
theorem dX6_split_0 : decode cX6_split 0 = .ok (.aload_n 0, 1) := by decide +kernel
theorem dX6_split_1 : decode cX6_split 1 = .ok (.iconst 0, 1) := by decide +kernel
theorem dX6_split_2 : decode cX6_split 2 = .ok (.iload_n 1, 1) := by decide +kernel
theorem dX6_split_3 : decode cX6_split 3 = .ok (.aload_n 0, 1) := by decide +kernel
theorem dX6_split_4 : decode cX6_split 4 = .ok (.getfield 21, 3) := by decide +kernel
theorem dX6_split_7 : decode cX6_split 7 = .ok (.arraylength, 1) := by decide +kernel
theorem dX6_split_8 : decode cX6_split 8 = .ok (.invokestatic 25, 3) := by decide +kernel
theorem dX6_split_11 : decode cX6_split 11 = .ok (.invokestatic 31, 3) := by decide +kernel
theorem dX6_split_14 : decode cX6_split 14 = .ok (.putfield 34, 3) := by decide +kernel
theorem dX6_split_17 : decode cX6_split 17 = .ok (.aload_n 0, 1) := by decide +kernel
theorem dX6_split_18 : decode cX6_split 18 = .ok (.iconst 0, 1) := by decide +kernel
theorem dX6_split_19 : decode cX6_split 19 = .ok (.putfield 38, 3) := by decide +kernel
theorem dX6_split_22 : decode cX6_split 22 = .ok (.aload_n 0, 1) := by decide +kernel
theorem dX6_split_23 : decode cX6_split 23 = .ok (.iconst 0, 1) := by decide +kernel
theorem dX6_split_24 : decode cX6_split 24 = .ok (.putfield 41, 3) := by decide +kernel
theorem dX6_split_27 : decode cX6_split 27 = .ok (.iconst 0, 1) := by decide +kernel
theorem dX6_split_28 : decode cX6_split 28 = .ok (.istore_n 2, 1) := by decide +kernel
theorem dX6_split_29 : decode cX6_split 29 = .ok (.iload_n 2, 1) := by decide +kernel
theorem dX6_split_30 : decode cX6_split 30 = .ok (.aload_n 0, 1) := by decide +kernel
theorem dX6_split_31 : decode cX6_split 31 = .ok (.getfield 34, 3) := by decide +kernel
theorem dX6_split_34 : decode cX6_split 34 = .ok (.if_icmp .ge 51, 3) := by decide +kernel
theorem dX6_split_37 : decode cX6_split 37 = .ok (.aload_n 0, 1) := by decide +kernel
theorem dX6_split_38 : decode cX6_split 38 = .ok (.getfield 38, 3) := by decide +kernel
theorem dX6_split_41 : decode cX6_split 41 = .ok (.aload_n 0, 1) := by decide +kernel
theorem dX6_split_42 : decode cX6_split 42 = .ok (.getfield 34, 3) := by decide +kernel
theorem dX6_split_45 : decode cX6_split 45 = .ok (.if_icmp .ge 40, 3) := by decide +kernel
theorem dX6_split_48 : decode cX6_split 48 = .ok (.aload_n 0, 1) := by decide +kernel
theorem dX6_split_49 : decode cX6_split 49 = .ok (.aload_n 0, 1) := by decide +kernel
theorem dX6_split_50 : decode cX6_split 50 = .ok (.getfield 38, 3) := by decide +kernel
theorem dX6_split_53 : decode cX6_split 53 = .ok (.invokevirtual 44, 3) := by decide +kernel
theorem dX6_split_56 : decode cX6_split 56 = .ok (.invokestatic 48, 3) := by decide +kernel
theorem dX6_split_59 : decode cX6_split 59 = .ok (.ifCond .eq 16, 3) := by decide +kernel
theorem dX6_split_62 : decode cX6_split 62 = .ok (.aload_n 0, 1) := by decide +kernel
theorem dX6_split_63 : decode cX6_split 63 = .ok (.dup, 1) := by decide +kernel
theorem dX6_split_64 : decode cX6_split 64 = .ok (.getfield 38, 3) := by decide +kernel
theorem dX6_split_67 : decode cX6_split 67 = .ok (.iconst 1, 1) := by decide +kernel
theorem dX6_split_68 : decode cX6_split 68 = .ok (.iadd, 1) := by decide +kernel
theorem dX6_split_69 : decode cX6_split 69 = .ok (.putfield 38, 3) := by decide +kernel
theorem dX6_split_72 : decode cX6_split 72 = .ok (.goto 7, 3) := by decide +kernel
theorem dX6_split_75 : decode cX6_split 75 = .ok (.aload_n 0, 1) := by decide +kernel
theorem dX6_split_76 : decode cX6_split 76 = .ok (.invokevirtual 52, 3) := by decide +kernel
theorem dX6_split_79 : decode cX6_split 79 = .ok (.iinc 2 1, 3) := by decide +kernel
theorem dX6_split_82 : decode cX6_split 82 = .ok (.goto (-53), 3) := by decide +kernel
theorem dX6_split_85 : decode cX6_split 85 = .ok (.aload_n 0, 1) := by decide +kernel
theorem dX6_split_86 : decode cX6_split 86 = .ok (.iconst 0, 1) := by decide +kernel
theorem dX6_split_87 : decode cX6_split 87 = .ok (.aload_n 0, 1) := by decide +kernel
theorem dX6_split_88 : decode cX6_split 88 = .ok (.getfield 34, 3) := by decide +kernel
theorem dX6_split_91 : decode cX6_split 91 = .ok (.iconst 0, 1) := by decide +kernel
theorem dX6_split_92 : decode cX6_split 92 = .ok (.invokevirtual 55, 3) := by decide +kernel
theorem dX6_split_95 : decode cX6_split 95 = .ok (.return_, 1) := by decide +kernel
theorem dX6_keep_0 : decode cX6_keep 0 = .ok (.aload_n 0, 1) := by decide +kernel
theorem dX6_keep_1 : decode cX6_keep 1 = .ok (.getfield 41, 3) := by decide +kernel
theorem dX6_keep_4 : decode cX6_keep 4 = .ok (.ifCond .lt 55, 3) := by decide +kernel
theorem dX6_keep_7 : decode cX6_keep 7 = .ok (.aload_n 0, 1) := by decide +kernel
theorem dX6_keep_8 : decode cX6_keep 8 = .ok (.getfield 41, 3) := by decide +kernel
theorem dX6_keep_11 : decode cX6_keep 11 = .ok (.aload_n 0, 1) := by decide +kernel
theorem dX6_keep_12 : decode cX6_keep 12 = .ok (.getfield 9, 3) := by decide +kernel
theorem dX6_keep_15 : decode cX6_keep 15 = .ok (.arraylength, 1) := by decide +kernel
theorem dX6_keep_16 : decode cX6_keep 16 = .ok (.if_icmp .ge 43, 3) := by decide +kernel
theorem dX6_keep_19 : decode cX6_keep 19 = .ok (.aload_n 0, 1) := by decide +kernel
theorem dX6_keep_20 : decode cX6_keep 20 = .ok (.getfield 9, 3) := by decide +kernel
theorem dX6_keep_23 : decode cX6_keep 23 = .ok (.aload_n 0, 1) := by decide +kernel
theorem dX6_keep_24 : decode cX6_keep 24 = .ok (.getfield 41, 3) := by decide +kernel
theorem dX6_keep_27 : decode cX6_keep 27 = .ok (.iload_n 1, 1) := by decide +kernel
theorem dX6_keep_28 : decode cX6_keep 28 = .ok (.iastore, 1) := by decide +kernel
theorem dX6_keep_29 : decode cX6_keep 29 = .ok (.aload_n 0, 1) := by decide +kernel
theorem dX6_keep_30 : decode cX6_keep 30 = .ok (.getfield 15, 3) := by decide +kernel
theorem dX6_keep_33 : decode cX6_keep 33 = .ok (.aload_n 0, 1) := by decide +kernel
theorem dX6_keep_34 : decode cX6_keep 34 = .ok (.getfield 41, 3) := by decide +kernel
theorem dX6_keep_37 : decode cX6_keep 37 = .ok (.iload_n 2, 1) := by decide +kernel
theorem dX6_keep_38 : decode cX6_keep 38 = .ok (.iastore, 1) := by decide +kernel
theorem dX6_keep_39 : decode cX6_keep 39 = .ok (.aload_n 0, 1) := by decide +kernel
theorem dX6_keep_40 : decode cX6_keep 40 = .ok (.getfield 18, 3) := by decide +kernel
theorem dX6_keep_43 : decode cX6_keep 43 = .ok (.aload_n 0, 1) := by decide +kernel
theorem dX6_keep_44 : decode cX6_keep 44 = .ok (.getfield 41, 3) := by decide +kernel
theorem dX6_keep_47 : decode cX6_keep 47 = .ok (.iload_n 3, 1) := by decide +kernel
theorem dX6_keep_48 : decode cX6_keep 48 = .ok (.iastore, 1) := by decide +kernel
theorem dX6_keep_49 : decode cX6_keep 49 = .ok (.aload_n 0, 1) := by decide +kernel
theorem dX6_keep_50 : decode cX6_keep 50 = .ok (.dup, 1) := by decide +kernel
theorem dX6_keep_51 : decode cX6_keep 51 = .ok (.getfield 41, 3) := by decide +kernel
theorem dX6_keep_54 : decode cX6_keep 54 = .ok (.iconst 1, 1) := by decide +kernel
theorem dX6_keep_55 : decode cX6_keep 55 = .ok (.iadd, 1) := by decide +kernel
theorem dX6_keep_56 : decode cX6_keep 56 = .ok (.putfield 41, 3) := by decide +kernel
theorem dX6_keep_59 : decode cX6_keep 59 = .ok (.return_, 1) := by decide +kernel
theorem dX7_init_0 : decode cX7_init 0 = .ok (.aload_n 0, 1) := by decide +kernel
theorem dX7_init_1 : decode cX7_init 1 = .ok (.invokespecial 3, 3) := by decide +kernel
theorem dX7_init_4 : decode cX7_init 4 = .ok (.aload_n 0, 1) := by decide +kernel
theorem dX7_init_5 : decode cX7_init 5 = .ok (.iconst 2, 1) := by decide +kernel
theorem dX7_init_6 : decode cX7_init 6 = .ok (.putfield 9, 3) := by decide +kernel
theorem dX7_init_9 : decode cX7_init 9 = .ok (.aload_n 0, 1) := by decide +kernel
theorem dX7_init_10 : decode cX7_init 10 = .ok (.bipush (-2), 2) := by decide +kernel
theorem dX7_init_12 : decode cX7_init 12 = .ok (.putfield 15, 3) := by decide +kernel
theorem dX7_init_15 : decode cX7_init 15 = .ok (.aload_n 0, 1) := by decide +kernel
theorem dX7_init_16 : decode cX7_init 16 = .ok (.iload_n 1, 1) := by decide +kernel
theorem dX7_init_17 : decode cX7_init 17 = .ok (.putfield 18, 3) := by decide +kernel
theorem dX7_init_20 : decode cX7_init 20 = .ok (.return_, 1) := by decide +kernel
theorem dX7_takeFood_0 : decode cX7_takeFood 0 = .ok (.aload_n 0, 1) := by decide +kernel
theorem dX7_takeFood_1 : decode cX7_takeFood 1 = .ok (.dup, 1) := by decide +kernel
theorem dX7_takeFood_2 : decode cX7_takeFood 2 = .ok (.getfield 45, 3) := by decide +kernel
theorem dX7_takeFood_5 : decode cX7_takeFood 5 = .ok (.iload_n 1, 1) := by decide +kernel
theorem dX7_takeFood_6 : decode cX7_takeFood 6 = .ok (.iadd, 1) := by decide +kernel
theorem dX7_takeFood_7 : decode cX7_takeFood 7 = .ok (.putfield 45, 3) := by decide +kernel
theorem dX7_takeFood_10 : decode cX7_takeFood 10 = .ok (.aload_n 0, 1) := by decide +kernel
theorem dX7_takeFood_11 : decode cX7_takeFood 11 = .ok (.getfield 45, 3) := by decide +kernel
theorem dX7_takeFood_14 : decode cX7_takeFood 14 = .ok (.sipush 1000, 3) := by decide +kernel
theorem dX7_takeFood_17 : decode cX7_takeFood 17 = .ok (.if_icmp .gt 5, 3) := by decide +kernel
theorem dX7_takeFood_20 : decode cX7_takeFood 20 = .ok (.iconst 1, 1) := by decide +kernel
theorem dX7_takeFood_21 : decode cX7_takeFood 21 = .ok (.ireturn, 1) := by decide +kernel
theorem dX7_takeFood_22 : decode cX7_takeFood 22 = .ok (.aload_n 0, 1) := by decide +kernel
theorem dX7_takeFood_23 : decode cX7_takeFood 23 = .ok (.sipush 1000, 3) := by decide +kernel
theorem dX7_takeFood_26 : decode cX7_takeFood 26 = .ok (.putfield 45, 3) := by decide +kernel
theorem dX7_takeFood_29 : decode cX7_takeFood 29 = .ok (.aload_n 0, 1) := by decide +kernel
theorem dX7_takeFood_30 : decode cX7_takeFood 30 = .ok (.iconst 2, 1) := by decide +kernel
theorem dX7_takeFood_31 : decode cX7_takeFood 31 = .ok (.putfield 9, 3) := by decide +kernel
theorem dX7_takeFood_34 : decode cX7_takeFood 34 = .ok (.iconst 0, 1) := by decide +kernel
theorem dX7_takeFood_35 : decode cX7_takeFood 35 = .ok (.ireturn, 1) := by decide +kernel
theorem dX7_takeLime_0 : decode cX7_takeLime 0 = .ok (.aload_n 0, 1) := by decide +kernel
theorem dX7_takeLime_1 : decode cX7_takeLime 1 = .ok (.getfield 9, 3) := by decide +kernel
theorem dX7_takeLime_4 : decode cX7_takeLime 4 = .ok (.iconst 2, 1) := by decide +kernel
theorem dX7_takeLime_5 : decode cX7_takeLime 5 = .ok (.if_icmp .ne 20, 3) := by decide +kernel
theorem dX7_takeLime_8 : decode cX7_takeLime 8 = .ok (.aload_n 0, 1) := by decide +kernel
theorem dX7_takeLime_9 : decode cX7_takeLime 9 = .ok (.iconst 0, 1) := by decide +kernel
theorem dX7_takeLime_10 : decode cX7_takeLime 10 = .ok (.putfield 42, 3) := by decide +kernel
theorem dX7_takeLime_13 : decode cX7_takeLime 13 = .ok (.aload_n 0, 1) := by decide +kernel
theorem dX7_takeLime_14 : decode cX7_takeLime 14 = .ok (.getfield 45, 3) := by decide +kernel
theorem dX7_takeLime_17 : decode cX7_takeLime 17 = .ok (.ifCond .le 8, 3) := by decide +kernel
theorem dX7_takeLime_20 : decode cX7_takeLime 20 = .ok (.aload_n 0, 1) := by decide +kernel
theorem dX7_takeLime_21 : decode cX7_takeLime 21 = .ok (.iconst 1, 1) := by decide +kernel
theorem dX7_takeLime_22 : decode cX7_takeLime 22 = .ok (.putfield 9, 3) := by decide +kernel
theorem dX7_takeLime_25 : decode cX7_takeLime 25 = .ok (.aload_n 0, 1) := by decide +kernel
theorem dX7_takeLime_26 : decode cX7_takeLime 26 = .ok (.aload_n 0, 1) := by decide +kernel
theorem dX7_takeLime_27 : decode cX7_takeLime 27 = .ok (.getfield 45, 3) := by decide +kernel
theorem dX7_takeLime_30 : decode cX7_takeLime 30 = .ok (.iconst 2, 1) := by decide +kernel
theorem dX7_takeLime_31 : decode cX7_takeLime 31 = .ok (.idiv, 1) := by decide +kernel
theorem dX7_takeLime_32 : decode cX7_takeLime 32 = .ok (.putfield 45, 3) := by decide +kernel
theorem dX7_takeLime_35 : decode cX7_takeLime 35 = .ok (.return_, 1) := by decide +kernel
theorem dX7_liveThrough_0 : decode cX7_liveThrough 0 = .ok (.aload_n 0, 1) := by decide +kernel
theorem dX7_liveThrough_1 : decode cX7_liveThrough 1 = .ok (.iconst 0, 1) := by decide +kernel
theorem dX7_liveThrough_2 : decode cX7_liveThrough 2 = .ok (.aload_n 0, 1) := by decide +kernel
theorem dX7_liveThrough_3 : decode cX7_liveThrough 3 = .ok (.getfield 45, 3) := by decide +kernel
theorem dX7_liveThrough_6 : decode cX7_liveThrough 6 = .ok (.iconst 5, 1) := by decide +kernel
theorem dX7_liveThrough_7 : decode cX7_liveThrough 7 = .ok (.isub, 1) := by decide +kernel
theorem dX7_liveThrough_8 : decode cX7_liveThrough 8 = .ok (.invokestatic 48, 3) := by decide +kernel
theorem dX7_liveThrough_11 : decode cX7_liveThrough 11 = .ok (.putfield 45, 3) := by decide +kernel
theorem dX7_liveThrough_14 : decode cX7_liveThrough 14 = .ok (.aload_n 0, 1) := by decide +kernel
theorem dX7_liveThrough_15 : decode cX7_liveThrough 15 = .ok (.getfield 45, 3) := by decide +kernel
theorem dX7_liveThrough_18 : decode cX7_liveThrough 18 = .ok (.ifCond .ne 11, 3) := by decide +kernel
theorem dX7_liveThrough_21 : decode cX7_liveThrough 21 = .ok (.aload_n 0, 1) := by decide +kernel
theorem dX7_liveThrough_22 : decode cX7_liveThrough 22 = .ok (.iconst 2, 1) := by decide +kernel
theorem dX7_liveThrough_23 : decode cX7_liveThrough 23 = .ok (.putfield 9, 3) := by decide +kernel
theorem dX7_liveThrough_26 : decode cX7_liveThrough 26 = .ok (.goto 31, 3) := by decide +kernel
theorem dX7_liveThrough_29 : decode cX7_liveThrough 29 = .ok (.aload_n 0, 1) := by decide +kernel
theorem dX7_liveThrough_30 : decode cX7_liveThrough 30 = .ok (.getfield 9, 3) := by decide +kernel
theorem dX7_liveThrough_33 : decode cX7_liveThrough 33 = .ok (.iconst 2, 1) := by decide +kernel
theorem dX7_liveThrough_34 : decode cX7_liveThrough 34 = .ok (.if_icmp .eq 23, 3) := by decide +kernel
theorem dX7_liveThrough_37 : decode cX7_liveThrough 37 = .ok (.aload_n 0, 1) := by decide +kernel
theorem dX7_liveThrough_38 : decode cX7_liveThrough 38 = .ok (.getfield 15, 3) := by decide +kernel
theorem dX7_liveThrough_41 : decode cX7_liveThrough 41 = .ok (.iload_n 1, 1) := by decide +kernel
theorem dX7_liveThrough_42 : decode cX7_liveThrough 42 = .ok (.iconst 1, 1) := by decide +kernel
theorem dX7_liveThrough_43 : decode cX7_liveThrough 43 = .ok (.isub, 1) := by decide +kernel
theorem dX7_liveThrough_44 : decode cX7_liveThrough 44 = .ok (.if_icmp .ge 13, 3) := by decide +kernel
theorem dX7_liveThrough_47 : decode cX7_liveThrough 47 = .ok (.aload_n 0, 1) := by decide +kernel
theorem dX7_liveThrough_48 : decode cX7_liveThrough 48 = .ok (.iconst 0, 1) := by decide +kernel
theorem dX7_liveThrough_49 : decode cX7_liveThrough 49 = .ok (.putfield 9, 3) := by decide +kernel
theorem dX7_liveThrough_52 : decode cX7_liveThrough 52 = .ok (.aload_n 0, 1) := by decide +kernel
theorem dX7_liveThrough_53 : decode cX7_liveThrough 53 = .ok (.iconst 0, 1) := by decide +kernel
theorem dX7_liveThrough_54 : decode cX7_liveThrough 54 = .ok (.putfield 42, 3) := by decide +kernel
theorem dX7_liveThrough_57 : decode cX7_liveThrough 57 = .ok (.return_, 1) := by decide +kernel
theorem dX8_init_0 : decode cX8_init 0 = .ok (.aload_n 0, 1) := by decide +kernel
theorem dX8_init_1 : decode cX8_init 1 = .ok (.invokespecial 3, 3) := by decide +kernel
theorem dX8_init_4 : decode cX8_init 4 = .ok (.aload_n 0, 1) := by decide +kernel
theorem dX8_init_5 : decode cX8_init 5 = .ok (.bipush 6, 2) := by decide +kernel
theorem dX8_init_7 : decode cX8_init 7 = .ok (.anewarray 9, 3) := by decide +kernel
theorem dX8_init_10 : decode cX8_init 10 = .ok (.putfield 11, 3) := by decide +kernel
theorem dX8_init_13 : decode cX8_init 13 = .ok (.iconst 0, 1) := by decide +kernel
theorem dX8_init_14 : decode cX8_init 14 = .ok (.istore_n 1, 1) := by decide +kernel
theorem dX8_init_15 : decode cX8_init 15 = .ok (.iload_n 1, 1) := by decide +kernel
theorem dX8_init_16 : decode cX8_init 16 = .ok (.aload_n 0, 1) := by decide +kernel
theorem dX8_init_17 : decode cX8_init 17 = .ok (.getfield 11, 3) := by decide +kernel
theorem dX8_init_20 : decode cX8_init 20 = .ok (.arraylength, 1) := by decide +kernel
theorem dX8_init_21 : decode cX8_init 21 = .ok (.if_icmp .ge 23, 3) := by decide +kernel
theorem dX8_init_24 : decode cX8_init 24 = .ok (.aload_n 0, 1) := by decide +kernel
theorem dX8_init_25 : decode cX8_init 25 = .ok (.getfield 11, 3) := by decide +kernel
theorem dX8_init_28 : decode cX8_init 28 = .ok (.iload_n 1, 1) := by decide +kernel
theorem dX8_init_29 : decode cX8_init 29 = .ok (.new 9, 3) := by decide +kernel
theorem dX8_init_32 : decode cX8_init 32 = .ok (.dup, 1) := by decide +kernel
theorem dX8_init_33 : decode cX8_init 33 = .ok (.iload_n 1, 1) := by decide +kernel
theorem dX8_init_34 : decode cX8_init 34 = .ok (.invokespecial 17, 3) := by decide +kernel
theorem dX8_init_37 : decode cX8_init 37 = .ok (.aastore, 1) := by decide +kernel
theorem dX8_init_38 : decode cX8_init 38 = .ok (.iinc 1 1, 3) := by decide +kernel
theorem dX8_init_41 : decode cX8_init 41 = .ok (.goto (-26), 3) := by decide +kernel
theorem dX8_init_44 : decode cX8_init 44 = .ok (.return_, 1) := by decide +kernel
theorem dX8_vatAt_0 : decode cX8_vatAt 0 = .ok (.iload_n 1, 1) := by decide +kernel
theorem dX8_vatAt_1 : decode cX8_vatAt 1 = .ok (.ifCond .lt 12, 3) := by decide +kernel
theorem dX8_vatAt_4 : decode cX8_vatAt 4 = .ok (.iload_n 1, 1) := by decide +kernel
theorem dX8_vatAt_5 : decode cX8_vatAt 5 = .ok (.aload_n 0, 1) := by decide +kernel
theorem dX8_vatAt_6 : decode cX8_vatAt 6 = .ok (.getfield 11, 3) := by decide +kernel
theorem dX8_vatAt_9 : decode cX8_vatAt 9 = .ok (.arraylength, 1) := by decide +kernel
theorem dX8_vatAt_10 : decode cX8_vatAt 10 = .ok (.if_icmp .lt 13, 3) := by decide +kernel
theorem dX8_vatAt_13 : decode cX8_vatAt 13 = .ok (.new 20, 3) := by decide +kernel
theorem dX8_vatAt_16 : decode cX8_vatAt 16 = .ok (.dup, 1) := by decide +kernel
theorem dX8_vatAt_17 : decode cX8_vatAt 17 = .ok (.ldc 22, 2) := by decide +kernel
theorem dX8_vatAt_19 : decode cX8_vatAt 19 = .ok (.invokespecial 24, 3) := by decide +kernel
theorem dX8_vatAt_22 : decode cX8_vatAt 22 = .ok (.athrow, 1) := by decide +kernel
theorem dX8_vatAt_23 : decode cX8_vatAt 23 = .ok (.aload_n 0, 1) := by decide +kernel
theorem dX8_vatAt_24 : decode cX8_vatAt 24 = .ok (.getfield 11, 3) := by decide +kernel
theorem dX8_vatAt_27 : decode cX8_vatAt 27 = .ok (.iload_n 1, 1) := by decide +kernel
theorem dX8_vatAt_28 : decode cX8_vatAt 28 = .ok (.aaload, 1) := by decide +kernel
theorem dX8_vatAt_29 : decode cX8_vatAt 29 = .ok (.areturn, 1) := by decide +kernel
theorem dX8_passHour_0 : decode cX8_passHour 0 = .ok (.iconst 0, 1) := by decide +kernel
theorem dX8_passHour_1 : decode cX8_passHour 1 = .ok (.istore_n 1, 1) := by decide +kernel
theorem dX8_passHour_2 : decode cX8_passHour 2 = .ok (.iload_n 1, 1) := by decide +kernel
theorem dX8_passHour_3 : decode cX8_passHour 3 = .ok (.aload_n 0, 1) := by decide +kernel
theorem dX8_passHour_4 : decode cX8_passHour 4 = .ok (.getfield 11, 3) := by decide +kernel
theorem dX8_passHour_7 : decode cX8_passHour 7 = .ok (.arraylength, 1) := by decide +kernel
theorem dX8_passHour_8 : decode cX8_passHour 8 = .ok (.if_icmp .ge 22, 3) := by decide +kernel
theorem dX8_passHour_11 : decode cX8_passHour 11 = .ok (.aload_n 0, 1) := by decide +kernel
theorem dX8_passHour_12 : decode cX8_passHour 12 = .ok (.getfield 11, 3) := by decide +kernel
theorem dX8_passHour_15 : decode cX8_passHour 15 = .ok (.iload_n 1, 1) := by decide +kernel
theorem dX8_passHour_16 : decode cX8_passHour 16 = .ok (.aaload, 1) := by decide +kernel
theorem dX8_passHour_17 : decode cX8_passHour 17 = .ok (.aload_n 0, 1) := by decide +kernel
theorem dX8_passHour_18 : decode cX8_passHour 18 = .ok (.getfield 31, 3) := by decide +kernel
theorem dX8_passHour_21 : decode cX8_passHour 21 = .ok (.invokevirtual 75, 3) := by decide +kernel
theorem dX8_passHour_24 : decode cX8_passHour 24 = .ok (.iinc 1 1, 3) := by decide +kernel
theorem dX8_passHour_27 : decode cX8_passHour 27 = .ok (.goto (-25), 3) := by decide +kernel
theorem dX8_passHour_30 : decode cX8_passHour 30 = .ok (.aload_n 0, 1) := by decide +kernel
theorem dX8_passHour_31 : decode cX8_passHour 31 = .ok (.dup, 1) := by decide +kernel
theorem dX8_passHour_32 : decode cX8_passHour 32 = .ok (.getfield 31, 3) := by decide +kernel
theorem dX8_passHour_35 : decode cX8_passHour 35 = .ok (.iconst 1, 1) := by decide +kernel
theorem dX8_passHour_36 : decode cX8_passHour 36 = .ok (.iadd, 1) := by decide +kernel
theorem dX8_passHour_37 : decode cX8_passHour 37 = .ok (.putfield 31, 3) := by decide +kernel
theorem dX8_passHour_40 : decode cX8_passHour 40 = .ok (.return_, 1) := by decide +kernel
theorem dX8_passHours_0 : decode cX8_passHours 0 = .ok (.iload_n 1, 1) := by decide +kernel
theorem dX8_passHours_1 : decode cX8_passHours 1 = .ok (.sipush 200, 3) := by decide +kernel
theorem dX8_passHours_4 : decode cX8_passHours 4 = .ok (.invokestatic 78, 3) := by decide +kernel
theorem dX8_passHours_7 : decode cX8_passHours 7 = .ok (.istore_n 2, 1) := by decide +kernel
theorem dX8_passHours_8 : decode cX8_passHours 8 = .ok (.iconst 0, 1) := by decide +kernel
theorem dX8_passHours_9 : decode cX8_passHours 9 = .ok (.istore_n 3, 1) := by decide +kernel
theorem dX8_passHours_10 : decode cX8_passHours 10 = .ok (.iload_n 3, 1) := by decide +kernel
theorem dX8_passHours_11 : decode cX8_passHours 11 = .ok (.iload_n 2, 1) := by decide +kernel
theorem dX8_passHours_12 : decode cX8_passHours 12 = .ok (.if_icmp .ge 13, 3) := by decide +kernel
theorem dX8_passHours_15 : decode cX8_passHours 15 = .ok (.aload_n 0, 1) := by decide +kernel
theorem dX8_passHours_16 : decode cX8_passHours 16 = .ok (.invokevirtual 84, 3) := by decide +kernel
theorem dX8_passHours_19 : decode cX8_passHours 19 = .ok (.iinc 3 1, 3) := by decide +kernel
theorem dX8_passHours_22 : decode cX8_passHours 22 = .ok (.goto (-12), 3) := by decide +kernel
theorem dX8_passHours_25 : decode cX8_passHours 25 = .ok (.aload_n 0, 1) := by decide +kernel
theorem dX8_passHours_26 : decode cX8_passHours 26 = .ok (.dup, 1) := by decide +kernel
theorem dX8_passHours_27 : decode cX8_passHours 27 = .ok (.getfield 31, 3) := by decide +kernel
theorem dX8_passHours_30 : decode cX8_passHours 30 = .ok (.iload_n 1, 1) := by decide +kernel
theorem dX8_passHours_31 : decode cX8_passHours 31 = .ok (.iload_n 2, 1) := by decide +kernel
theorem dX8_passHours_32 : decode cX8_passHours 32 = .ok (.isub, 1) := by decide +kernel
theorem dX8_passHours_33 : decode cX8_passHours 33 = .ok (.iadd, 1) := by decide +kernel
theorem dX8_passHours_34 : decode cX8_passHours 34 = .ok (.putfield 31, 3) := by decide +kernel
theorem dX8_passHours_37 : decode cX8_passHours 37 = .ok (.return_, 1) := by decide +kernel
theorem dX9_init_0 : decode cX9_init 0 = .ok (.aload_n 0, 1) := by decide +kernel
theorem dX9_init_1 : decode cX9_init 1 = .ok (.invokespecial 1, 3) := by decide +kernel
theorem dX9_init_4 : decode cX9_init 4 = .ok (.aload_n 0, 1) := by decide +kernel
theorem dX9_init_5 : decode cX9_init 5 = .ok (.new 7, 3) := by decide +kernel
theorem dX9_init_8 : decode cX9_init 8 = .ok (.dup, 1) := by decide +kernel
theorem dX9_init_9 : decode cX9_init 9 = .ok (.invokespecial 9, 3) := by decide +kernel
theorem dX9_init_12 : decode cX9_init 12 = .ok (.putfield 10, 3) := by decide +kernel
theorem dX9_init_15 : decode cX9_init 15 = .ok (.aload_n 0, 1) := by decide +kernel
theorem dX9_init_16 : decode cX9_init 16 = .ok (.bipush 30, 2) := by decide +kernel
theorem dX9_init_18 : decode cX9_init 18 = .ok (.anewarray 16, 3) := by decide +kernel
theorem dX9_init_21 : decode cX9_init 21 = .ok (.putfield 18, 3) := by decide +kernel
theorem dX9_init_24 : decode cX9_init 24 = .ok (.aload_n 0, 1) := by decide +kernel
theorem dX9_init_25 : decode cX9_init 25 = .ok (.sipush 1500, 3) := by decide +kernel
theorem dX9_init_28 : decode cX9_init 28 = .ok (.newarray .byte, 2) := by decide +kernel
theorem dX9_init_30 : decode cX9_init 30 = .ok (.putfield 22, 3) := by decide +kernel
theorem dX9_init_33 : decode cX9_init 33 = .ok (.aload_n 0, 1) := by decide +kernel
theorem dX9_init_34 : decode cX9_init 34 = .ok (.new 26, 3) := by decide +kernel
theorem dX9_init_37 : decode cX9_init 37 = .ok (.dup, 1) := by decide +kernel
theorem dX9_init_38 : decode cX9_init 38 = .ok (.aload_n 0, 1) := by decide +kernel
theorem dX9_init_39 : decode cX9_init 39 = .ok (.getfield 22, 3) := by decide +kernel
theorem dX9_init_42 : decode cX9_init 42 = .ok (.invokespecial 28, 3) := by decide +kernel
theorem dX9_init_45 : decode cX9_init 45 = .ok (.putfield 31, 3) := by decide +kernel
theorem dX9_init_48 : decode cX9_init 48 = .ok (.aload_n 0, 1) := by decide +kernel
theorem dX9_init_49 : decode cX9_init 49 = .ok (.bipush 8, 2) := by decide +kernel
theorem dX9_init_51 : decode cX9_init 51 = .ok (.anewarray 35, 3) := by decide +kernel
theorem dX9_init_54 : decode cX9_init 54 = .ok (.putfield 37, 3) := by decide +kernel
theorem dX9_init_57 : decode cX9_init 57 = .ok (.aload_n 0, 1) := by decide +kernel
theorem dX9_init_58 : decode cX9_init 58 = .ok (.new 41, 3) := by decide +kernel
theorem dX9_init_61 : decode cX9_init 61 = .ok (.dup, 1) := by decide +kernel
theorem dX9_init_62 : decode cX9_init 62 = .ok (.aload_n 0, 1) := by decide +kernel
theorem dX9_init_63 : decode cX9_init 63 = .ok (.getfield 10, 3) := by decide +kernel
theorem dX9_init_66 : decode cX9_init 66 = .ok (.invokespecial 43, 3) := by decide +kernel
theorem dX9_init_69 : decode cX9_init 69 = .ok (.putfield 46, 3) := by decide +kernel
theorem dX9_init_72 : decode cX9_init 72 = .ok (.aload_n 0, 1) := by decide +kernel
theorem dX9_init_73 : decode cX9_init 73 = .ok (.new 50, 3) := by decide +kernel
theorem dX9_init_76 : decode cX9_init 76 = .ok (.dup, 1) := by decide +kernel
theorem dX9_init_77 : decode cX9_init 77 = .ok (.aload_n 0, 1) := by decide +kernel
theorem dX9_init_78 : decode cX9_init 78 = .ok (.getfield 10, 3) := by decide +kernel
theorem dX9_init_81 : decode cX9_init 81 = .ok (.invokespecial 52, 3) := by decide +kernel
theorem dX9_init_84 : decode cX9_init 84 = .ok (.putfield 53, 3) := by decide +kernel
theorem dX9_init_87 : decode cX9_init 87 = .ok (.return_, 1) := by decide +kernel
theorem dX9_charge_0 : decode cX9_charge 0 = .ok (.aload_n 0, 1) := by decide +kernel
theorem dX9_charge_1 : decode cX9_charge 1 = .ok (.getfield 10, 3) := by decide +kernel
theorem dX9_charge_4 : decode cX9_charge 4 = .ok (.iload_n 1, 1) := by decide +kernel
theorem dX9_charge_5 : decode cX9_charge 5 = .ok (.invokevirtual 57, 3) := by decide +kernel
theorem dX9_charge_8 : decode cX9_charge 8 = .ok (.astore_n 3, 1) := by decide +kernel
theorem dX9_charge_9 : decode cX9_charge 9 = .ok (.iload_n 2, 1) := by decide +kernel
theorem dX9_charge_10 : decode cX9_charge 10 = .ok (.iconst 1, 1) := by decide +kernel
theorem dX9_charge_11 : decode cX9_charge 11 = .ok (.if_icmp .lt 14, 3) := by decide +kernel
theorem dX9_charge_14 : decode cX9_charge 14 = .ok (.iload_n 2, 1) := by decide +kernel
theorem dX9_charge_15 : decode cX9_charge 15 = .ok (.ldc 61, 2) := by decide +kernel
theorem dX9_charge_17 : decode cX9_charge 17 = .ok (.aload_n 3, 1) := by decide +kernel
theorem dX9_charge_18 : decode cX9_charge 18 = .ok (.getfield 62, 3) := by decide +kernel
theorem dX9_charge_21 : decode cX9_charge 21 = .ok (.isub, 1) := by decide +kernel
theorem dX9_charge_22 : decode cX9_charge 22 = .ok (.if_icmp .le 5, 3) := by decide +kernel
theorem dX9_charge_25 : decode cX9_charge 25 = .ok (.iconst (-1), 1) := by decide +kernel
theorem dX9_charge_26 : decode cX9_charge 26 = .ok (.ireturn, 1) := by decide +kernel
theorem dX9_charge_27 : decode cX9_charge 27 = .ok (.aload_n 3, 1) := by decide +kernel
theorem dX9_charge_28 : decode cX9_charge 28 = .ok (.dup, 1) := by decide +kernel
theorem dX9_charge_29 : decode cX9_charge 29 = .ok (.getfield 62, 3) := by decide +kernel
theorem dX9_charge_32 : decode cX9_charge 32 = .ok (.iload_n 2, 1) := by decide +kernel
theorem dX9_charge_33 : decode cX9_charge 33 = .ok (.iadd, 1) := by decide +kernel
theorem dX9_charge_34 : decode cX9_charge 34 = .ok (.putfield 62, 3) := by decide +kernel
theorem dX9_charge_37 : decode cX9_charge 37 = .ok (.aload_n 0, 1) := by decide +kernel
theorem dX9_charge_38 : decode cX9_charge 38 = .ok (.dup, 1) := by decide +kernel
theorem dX9_charge_39 : decode cX9_charge 39 = .ok (.getfield 68, 3) := by decide +kernel
theorem dX9_charge_42 : decode cX9_charge 42 = .ok (.iload_n 2, 1) := by decide +kernel
theorem dX9_charge_43 : decode cX9_charge 43 = .ok (.iadd, 1) := by decide +kernel
theorem dX9_charge_44 : decode cX9_charge 44 = .ok (.putfield 68, 3) := by decide +kernel
theorem dX9_charge_47 : decode cX9_charge 47 = .ok (.aload_n 3, 1) := by decide +kernel
theorem dX9_charge_48 : decode cX9_charge 48 = .ok (.getfield 62, 3) := by decide +kernel
theorem dX9_charge_51 : decode cX9_charge 51 = .ok (.ireturn, 1) := by decide +kernel
theorem dX9_feed_0 : decode cX9_feed 0 = .ok (.aload_n 0, 1) := by decide +kernel
theorem dX9_feed_1 : decode cX9_feed 1 = .ok (.getfield 10, 3) := by decide +kernel
theorem dX9_feed_4 : decode cX9_feed 4 = .ok (.iload_n 1, 1) := by decide +kernel
theorem dX9_feed_5 : decode cX9_feed 5 = .ok (.invokevirtual 57, 3) := by decide +kernel
theorem dX9_feed_8 : decode cX9_feed 8 = .ok (.astore_n 3, 1) := by decide +kernel
theorem dX9_feed_9 : decode cX9_feed 9 = .ok (.iload_n 2, 1) := by decide +kernel
theorem dX9_feed_10 : decode cX9_feed 10 = .ok (.iconst 1, 1) := by decide +kernel
theorem dX9_feed_11 : decode cX9_feed 11 = .ok (.if_icmp .lt 14, 3) := by decide +kernel
theorem dX9_feed_14 : decode cX9_feed 14 = .ok (.iload_n 2, 1) := by decide +kernel
theorem dX9_feed_15 : decode cX9_feed 15 = .ok (.sipush 1000, 3) := by decide +kernel
theorem dX9_feed_18 : decode cX9_feed 18 = .ok (.if_icmp .gt 7, 3) := by decide +kernel
theorem dX9_feed_21 : decode cX9_feed 21 = .ok (.iconst 1, 1) := by decide +kernel
theorem dX9_feed_22 : decode cX9_feed 22 = .ok (.goto 4, 3) := by decide +kernel
theorem dX9_feed_25 : decode cX9_feed 25 = .ok (.iconst 0, 1) := by decide +kernel
theorem dX9_feed_26 : decode cX9_feed 26 = .ok (.invokestatic 71, 3) := by decide +kernel
theorem dX9_feed_29 : decode cX9_feed 29 = .ok (.aload_n 3, 1) := by decide +kernel
theorem dX9_feed_30 : decode cX9_feed 30 = .ok (.iload_n 2, 1) := by decide +kernel
theorem dX9_feed_31 : decode cX9_feed 31 = .ok (.invokevirtual 75, 3) := by decide +kernel
theorem dX9_feed_34 : decode cX9_feed 34 = .ok (.pop, 1) := by decide +kernel
theorem dX9_feed_35 : decode cX9_feed 35 = .ok (.aload_n 3, 1) := by decide +kernel
theorem dX9_feed_36 : decode cX9_feed 36 = .ok (.getfield 79, 3) := by decide +kernel
theorem dX9_feed_39 : decode cX9_feed 39 = .ok (.ireturn, 1) := by decide +kernel
theorem dX9_lime_0 : decode cX9_lime 0 = .ok (.aload_n 0, 1) := by decide +kernel
theorem dX9_lime_1 : decode cX9_lime 1 = .ok (.getfield 10, 3) := by decide +kernel
theorem dX9_lime_4 : decode cX9_lime 4 = .ok (.iload_n 1, 1) := by decide +kernel
theorem dX9_lime_5 : decode cX9_lime 5 = .ok (.invokevirtual 57, 3) := by decide +kernel
theorem dX9_lime_8 : decode cX9_lime 8 = .ok (.astore_n 2, 1) := by decide +kernel
theorem dX9_lime_9 : decode cX9_lime 9 = .ok (.aload_n 2, 1) := by decide +kernel
theorem dX9_lime_10 : decode cX9_lime 10 = .ok (.invokevirtual 82, 3) := by decide +kernel
theorem dX9_lime_13 : decode cX9_lime 13 = .ok (.aload_n 2, 1) := by decide +kernel
theorem dX9_lime_14 : decode cX9_lime 14 = .ok (.getfield 79, 3) := by decide +kernel
theorem dX9_lime_17 : decode cX9_lime 17 = .ok (.ireturn, 1) := by decide +kernel
theorem dX9_hours_0 : decode cX9_hours 0 = .ok (.iload_n 1, 1) := by decide +kernel
theorem dX9_hours_1 : decode cX9_hours 1 = .ok (.ifCond .lt 14, 3) := by decide +kernel
theorem dX9_hours_4 : decode cX9_hours 4 = .ok (.iload_n 1, 1) := by decide +kernel
theorem dX9_hours_5 : decode cX9_hours 5 = .ok (.sipush 10000, 3) := by decide +kernel
theorem dX9_hours_8 : decode cX9_hours 8 = .ok (.if_icmp .gt 7, 3) := by decide +kernel
theorem dX9_hours_11 : decode cX9_hours 11 = .ok (.iconst 1, 1) := by decide +kernel
theorem dX9_hours_12 : decode cX9_hours 12 = .ok (.goto 4, 3) := by decide +kernel
theorem dX9_hours_15 : decode cX9_hours 15 = .ok (.iconst 0, 1) := by decide +kernel
theorem dX9_hours_16 : decode cX9_hours 16 = .ok (.invokestatic 71, 3) := by decide +kernel
theorem dX9_hours_19 : decode cX9_hours 19 = .ok (.aload_n 0, 1) := by decide +kernel
theorem dX9_hours_20 : decode cX9_hours 20 = .ok (.getfield 10, 3) := by decide +kernel
theorem dX9_hours_23 : decode cX9_hours 23 = .ok (.iload_n 1, 1) := by decide +kernel
theorem dX9_hours_24 : decode cX9_hours 24 = .ok (.invokevirtual 85, 3) := by decide +kernel
theorem dX9_hours_27 : decode cX9_hours 27 = .ok (.aload_n 0, 1) := by decide +kernel
theorem dX9_hours_28 : decode cX9_hours 28 = .ok (.getfield 10, 3) := by decide +kernel
theorem dX9_hours_31 : decode cX9_hours 31 = .ok (.getfield 89, 3) := by decide +kernel
theorem dX9_hours_34 : decode cX9_hours 34 = .ok (.ireturn, 1) := by decide +kernel
theorem dX9_cloth_0 : decode cX9_cloth 0 = .ok (.aload_n 0, 1) := by decide +kernel
theorem dX9_cloth_1 : decode cX9_cloth 1 = .ok (.getfield 92, 3) := by decide +kernel
theorem dX9_cloth_4 : decode cX9_cloth 4 = .ok (.ifCond .lt 26, 3) := by decide +kernel
theorem dX9_cloth_7 : decode cX9_cloth 7 = .ok (.aload_n 0, 1) := by decide +kernel
theorem dX9_cloth_8 : decode cX9_cloth 8 = .ok (.getfield 92, 3) := by decide +kernel
theorem dX9_cloth_11 : decode cX9_cloth 11 = .ok (.aload_n 0, 1) := by decide +kernel
theorem dX9_cloth_12 : decode cX9_cloth 12 = .ok (.getfield 18, 3) := by decide +kernel
theorem dX9_cloth_15 : decode cX9_cloth 15 = .ok (.arraylength, 1) := by decide +kernel
theorem dX9_cloth_16 : decode cX9_cloth 16 = .ok (.if_icmp .ge 14, 3) := by decide +kernel
theorem dX9_cloth_19 : decode cX9_cloth 19 = .ok (.iload_n 1, 1) := by decide +kernel
theorem dX9_cloth_20 : decode cX9_cloth 20 = .ok (.iconst 1, 1) := by decide +kernel
theorem dX9_cloth_21 : decode cX9_cloth 21 = .ok (.if_icmp .lt 9, 3) := by decide +kernel
theorem dX9_cloth_24 : decode cX9_cloth 24 = .ok (.iload_n 1, 1) := by decide +kernel
theorem dX9_cloth_25 : decode cX9_cloth 25 = .ok (.bipush 50, 2) := by decide +kernel
theorem dX9_cloth_27 : decode cX9_cloth 27 = .ok (.if_icmp .le 5, 3) := by decide +kernel
theorem dX9_cloth_30 : decode cX9_cloth 30 = .ok (.iconst (-1), 1) := by decide +kernel
theorem dX9_cloth_31 : decode cX9_cloth 31 = .ok (.ireturn, 1) := by decide +kernel
theorem dX9_cloth_32 : decode cX9_cloth 32 = .ok (.aload_n 0, 1) := by decide +kernel
theorem dX9_cloth_33 : decode cX9_cloth 33 = .ok (.getfield 18, 3) := by decide +kernel
theorem dX9_cloth_36 : decode cX9_cloth 36 = .ok (.aload_n 0, 1) := by decide +kernel
theorem dX9_cloth_37 : decode cX9_cloth 37 = .ok (.getfield 92, 3) := by decide +kernel
theorem dX9_cloth_40 : decode cX9_cloth 40 = .ok (.new 16, 3) := by decide +kernel
theorem dX9_cloth_43 : decode cX9_cloth 43 = .ok (.dup, 1) := by decide +kernel
theorem dX9_cloth_44 : decode cX9_cloth 44 = .ok (.aload_n 0, 1) := by decide +kernel
theorem dX9_cloth_45 : decode cX9_cloth 45 = .ok (.getfield 92, 3) := by decide +kernel
theorem dX9_cloth_48 : decode cX9_cloth 48 = .ok (.iload_n 1, 1) := by decide +kernel
theorem dX9_cloth_49 : decode cX9_cloth 49 = .ok (.invokespecial 95, 3) := by decide +kernel
theorem dX9_cloth_52 : decode cX9_cloth 52 = .ok (.aastore, 1) := by decide +kernel
theorem dX9_cloth_53 : decode cX9_cloth 53 = .ok (.aload_n 0, 1) := by decide +kernel
theorem dX9_cloth_54 : decode cX9_cloth 54 = .ok (.dup, 1) := by decide +kernel
theorem dX9_cloth_55 : decode cX9_cloth 55 = .ok (.getfield 92, 3) := by decide +kernel
theorem dX9_cloth_58 : decode cX9_cloth 58 = .ok (.iconst 1, 1) := by decide +kernel
theorem dX9_cloth_59 : decode cX9_cloth 59 = .ok (.iadd, 1) := by decide +kernel
theorem dX9_cloth_60 : decode cX9_cloth 60 = .ok (.putfield 92, 3) := by decide +kernel
theorem dX9_cloth_63 : decode cX9_cloth 63 = .ok (.aload_n 0, 1) := by decide +kernel
theorem dX9_cloth_64 : decode cX9_cloth 64 = .ok (.getfield 92, 3) := by decide +kernel
theorem dX9_cloth_67 : decode cX9_cloth 67 = .ok (.iconst 1, 1) := by decide +kernel
theorem dX9_cloth_68 : decode cX9_cloth 68 = .ok (.isub, 1) := by decide +kernel
theorem dX9_cloth_69 : decode cX9_cloth 69 = .ok (.ireturn, 1) := by decide +kernel
theorem dX9_dip_0 : decode cX9_dip 0 = .ok (.aload_n 0, 1) := by decide +kernel
theorem dX9_dip_1 : decode cX9_dip 1 = .ok (.iload_n 1, 1) := by decide +kernel
theorem dX9_dip_2 : decode cX9_dip 2 = .ok (.invokevirtual 98, 3) := by decide +kernel
theorem dX9_dip_5 : decode cX9_dip 5 = .ok (.astore 4, 2) := by decide +kernel
theorem dX9_dip_7 : decode cX9_dip 7 = .ok (.aload_n 0, 1) := by decide +kernel
theorem dX9_dip_8 : decode cX9_dip 8 = .ok (.getfield 10, 3) := by decide +kernel
theorem dX9_dip_11 : decode cX9_dip 11 = .ok (.iload_n 2, 1) := by decide +kernel
theorem dX9_dip_12 : decode cX9_dip 12 = .ok (.invokevirtual 57, 3) := by decide +kernel
theorem dX9_dip_15 : decode cX9_dip 15 = .ok (.astore 5, 2) := by decide +kernel
theorem dX9_dip_17 : decode cX9_dip 17 = .ok (.iload_n 3, 1) := by decide +kernel
theorem dX9_dip_18 : decode cX9_dip 18 = .ok (.iconst 1, 1) := by decide +kernel
theorem dX9_dip_19 : decode cX9_dip 19 = .ok (.if_icmp .lt 13, 3) := by decide +kernel
theorem dX9_dip_22 : decode cX9_dip 22 = .ok (.iload_n 3, 1) := by decide +kernel
theorem dX9_dip_23 : decode cX9_dip 23 = .ok (.bipush 20, 2) := by decide +kernel
theorem dX9_dip_25 : decode cX9_dip 25 = .ok (.if_icmp .gt 7, 3) := by decide +kernel
theorem dX9_dip_28 : decode cX9_dip 28 = .ok (.iconst 1, 1) := by decide +kernel
theorem dX9_dip_29 : decode cX9_dip 29 = .ok (.goto 4, 3) := by decide +kernel
theorem dX9_dip_32 : decode cX9_dip 32 = .ok (.iconst 0, 1) := by decide +kernel
theorem dX9_dip_33 : decode cX9_dip 33 = .ok (.invokestatic 71, 3) := by decide +kernel
theorem dX9_dip_36 : decode cX9_dip 36 = .ok (.aload 5, 2) := by decide +kernel
theorem dX9_dip_38 : decode cX9_dip 38 = .ok (.getfield 79, 3) := by decide +kernel
theorem dX9_dip_41 : decode cX9_dip 41 = .ok (.iconst 2, 1) := by decide +kernel
theorem dX9_dip_42 : decode cX9_dip 42 = .ok (.if_icmp .eq 11, 3) := by decide +kernel
theorem dX9_dip_45 : decode cX9_dip 45 = .ok (.aload 4, 2) := by decide +kernel
theorem dX9_dip_47 : decode cX9_dip 47 = .ok (.getfield 102, 3) := by decide +kernel
theorem dX9_dip_50 : decode cX9_dip 50 = .ok (.ifCond .eq 5, 3) := by decide +kernel
theorem dX9_dip_53 : decode cX9_dip 53 = .ok (.iconst (-1), 1) := by decide +kernel
theorem dX9_dip_54 : decode cX9_dip 54 = .ok (.ireturn, 1) := by decide +kernel
theorem dX9_dip_55 : decode cX9_dip 55 = .ok (.aload 5, 2) := by decide +kernel
theorem dX9_dip_57 : decode cX9_dip 57 = .ok (.aload 4, 2) := by decide +kernel
theorem dX9_dip_59 : decode cX9_dip 59 = .ok (.iload_n 3, 1) := by decide +kernel
theorem dX9_dip_60 : decode cX9_dip 60 = .ok (.invokevirtual 106, 3) := by decide +kernel
theorem dX9_dip_63 : decode cX9_dip 63 = .ok (.istore 6, 2) := by decide +kernel
theorem dX9_dip_65 : decode cX9_dip 65 = .ok (.aload_n 0, 1) := by decide +kernel
theorem dX9_dip_66 : decode cX9_dip 66 = .ok (.getfield 10, 3) := by decide +kernel
theorem dX9_dip_69 : decode cX9_dip 69 = .ok (.aload 5, 2) := by decide +kernel
theorem dX9_dip_71 : decode cX9_dip 71 = .ok (.aload 4, 2) := by decide +kernel
theorem dX9_dip_73 : decode cX9_dip 73 = .ok (.iload_n 3, 1) := by decide +kernel
theorem dX9_dip_74 : decode cX9_dip 74 = .ok (.iload 6, 2) := by decide +kernel
theorem dX9_dip_76 : decode cX9_dip 76 = .ok (.invokevirtual 110, 3) := by decide +kernel
theorem dX9_dip_79 : decode cX9_dip 79 = .ok (.iload 6, 2) := by decide +kernel
theorem dX9_dip_81 : decode cX9_dip 81 = .ok (.ireturn, 1) := by decide +kernel
theorem dX9_treat_0 : decode cX9_treat 0 = .ok (.aload_n 0, 1) := by decide +kernel
theorem dX9_treat_1 : decode cX9_treat 1 = .ok (.iload_n 1, 1) := by decide +kernel
theorem dX9_treat_2 : decode cX9_treat 2 = .ok (.invokevirtual 98, 3) := by decide +kernel
theorem dX9_treat_5 : decode cX9_treat 5 = .ok (.astore_n 3, 1) := by decide +kernel
theorem dX9_treat_6 : decode cX9_treat 6 = .ok (.iload_n 2, 1) := by decide +kernel
theorem dX9_treat_7 : decode cX9_treat 7 = .ok (.ifCond .lt 12, 3) := by decide +kernel
theorem dX9_treat_10 : decode cX9_treat 10 = .ok (.iload_n 2, 1) := by decide +kernel
theorem dX9_treat_11 : decode cX9_treat 11 = .ok (.iconst 2, 1) := by decide +kernel
theorem dX9_treat_12 : decode cX9_treat 12 = .ok (.if_icmp .gt 7, 3) := by decide +kernel
theorem dX9_treat_15 : decode cX9_treat 15 = .ok (.iconst 1, 1) := by decide +kernel
theorem dX9_treat_16 : decode cX9_treat 16 = .ok (.goto 4, 3) := by decide +kernel
theorem dX9_treat_19 : decode cX9_treat 19 = .ok (.iconst 0, 1) := by decide +kernel
theorem dX9_treat_20 : decode cX9_treat 20 = .ok (.invokestatic 71, 3) := by decide +kernel
theorem dX9_treat_23 : decode cX9_treat 23 = .ok (.aload_n 3, 1) := by decide +kernel
theorem dX9_treat_24 : decode cX9_treat 24 = .ok (.getfield 102, 3) := by decide +kernel
theorem dX9_treat_27 : decode cX9_treat 27 = .ok (.ifCond .eq 5, 3) := by decide +kernel
theorem dX9_treat_30 : decode cX9_treat 30 = .ok (.iconst (-1), 1) := by decide +kernel
theorem dX9_treat_31 : decode cX9_treat 31 = .ok (.ireturn, 1) := by decide +kernel
theorem dX9_treat_32 : decode cX9_treat 32 = .ok (.iload_n 2, 1) := by decide +kernel
theorem dX9_treat_33 : decode cX9_treat 33 = .ok (.lookupswitch 45 #[(0, 27), (1, 36)], 27) := by decide +kernel
theorem dX9_treat_60 : decode cX9_treat 60 = .ok (.aload_n 0, 1) := by decide +kernel
theorem dX9_treat_61 : decode cX9_treat 61 = .ok (.getfield 10, 3) := by decide +kernel
theorem dX9_treat_64 : decode cX9_treat 64 = .ok (.aload_n 3, 1) := by decide +kernel
theorem dX9_treat_65 : decode cX9_treat 65 = .ok (.invokevirtual 114, 3) := by decide +kernel
theorem dX9_treat_68 : decode cX9_treat 68 = .ok (.ireturn, 1) := by decide +kernel
theorem dX9_treat_69 : decode cX9_treat 69 = .ok (.aload_n 0, 1) := by decide +kernel
theorem dX9_treat_70 : decode cX9_treat 70 = .ok (.getfield 10, 3) := by decide +kernel
theorem dX9_treat_73 : decode cX9_treat 73 = .ok (.aload_n 3, 1) := by decide +kernel
theorem dX9_treat_74 : decode cX9_treat 74 = .ok (.invokevirtual 118, 3) := by decide +kernel
theorem dX9_treat_77 : decode cX9_treat 77 = .ok (.ireturn, 1) := by decide +kernel
theorem dX9_treat_78 : decode cX9_treat 78 = .ok (.aload_n 0, 1) := by decide +kernel
theorem dX9_treat_79 : decode cX9_treat 79 = .ok (.getfield 10, 3) := by decide +kernel
theorem dX9_treat_82 : decode cX9_treat 82 = .ok (.aload_n 3, 1) := by decide +kernel
theorem dX9_treat_83 : decode cX9_treat 83 = .ok (.invokevirtual 121, 3) := by decide +kernel
theorem dX9_treat_86 : decode cX9_treat 86 = .ok (.ireturn, 1) := by decide +kernel
theorem dX9_put_0 : decode cX9_put 0 = .ok (.aload_n 0, 1) := by decide +kernel
theorem dX9_put_1 : decode cX9_put 1 = .ok (.getfield 124, 3) := by decide +kernel
theorem dX9_put_4 : decode cX9_put 4 = .ok (.aload_n 0, 1) := by decide +kernel
theorem dX9_put_5 : decode cX9_put 5 = .ok (.getfield 22, 3) := by decide +kernel
theorem dX9_put_8 : decode cX9_put 8 = .ok (.arraylength, 1) := by decide +kernel
theorem dX9_put_9 : decode cX9_put 9 = .ok (.bipush 20, 2) := by decide +kernel
theorem dX9_put_11 : decode cX9_put 11 = .ok (.isub, 1) := by decide +kernel
theorem dX9_put_12 : decode cX9_put 12 = .ok (.if_icmp .le 5, 3) := by decide +kernel
theorem dX9_put_15 : decode cX9_put 15 = .ok (.iconst (-1), 1) := by decide +kernel
theorem dX9_put_16 : decode cX9_put 16 = .ok (.ireturn, 1) := by decide +kernel
theorem dX9_put_17 : decode cX9_put 17 = .ok (.aload_n 0, 1) := by decide +kernel
theorem dX9_put_18 : decode cX9_put 18 = .ok (.iload_n 1, 1) := by decide +kernel
theorem dX9_put_19 : decode cX9_put 19 = .ok (.invokevirtual 127, 3) := by decide +kernel
theorem dX9_put_22 : decode cX9_put 22 = .ok (.aload_n 0, 1) := by decide +kernel
theorem dX9_put_23 : decode cX9_put 23 = .ok (.iload_n 2, 1) := by decide +kernel
theorem dX9_put_24 : decode cX9_put 24 = .ok (.invokevirtual 127, 3) := by decide +kernel
theorem dX9_put_27 : decode cX9_put 27 = .ok (.aload_n 0, 1) := by decide +kernel
theorem dX9_put_28 : decode cX9_put 28 = .ok (.iload_n 3, 1) := by decide +kernel
theorem dX9_put_29 : decode cX9_put 29 = .ok (.invokevirtual 127, 3) := by decide +kernel
theorem dX9_put_32 : decode cX9_put 32 = .ok (.aload_n 0, 1) := by decide +kernel
theorem dX9_put_33 : decode cX9_put 33 = .ok (.iload 4, 2) := by decide +kernel
theorem dX9_put_35 : decode cX9_put 35 = .ok (.invokevirtual 127, 3) := by decide +kernel
theorem dX9_put_38 : decode cX9_put 38 = .ok (.aload_n 0, 1) := by decide +kernel
theorem dX9_put_39 : decode cX9_put 39 = .ok (.iload 5, 2) := by decide +kernel
theorem dX9_put_41 : decode cX9_put 41 = .ok (.invokevirtual 127, 3) := by decide +kernel
theorem dX9_put_44 : decode cX9_put 44 = .ok (.aload_n 0, 1) := by decide +kernel
theorem dX9_put_45 : decode cX9_put 45 = .ok (.getfield 124, 3) := by decide +kernel
theorem dX9_put_48 : decode cX9_put 48 = .ok (.ireturn, 1) := by decide +kernel
theorem dX9_recipe_0 : decode cX9_recipe 0 = .ok (.iload_n 1, 1) := by decide +kernel
theorem dX9_recipe_1 : decode cX9_recipe 1 = .ok (.ifCond .lt 28, 3) := by decide +kernel
theorem dX9_recipe_4 : decode cX9_recipe 4 = .ok (.iload_n 1, 1) := by decide +kernel
theorem dX9_recipe_5 : decode cX9_recipe 5 = .ok (.aload_n 0, 1) := by decide +kernel
theorem dX9_recipe_6 : decode cX9_recipe 6 = .ok (.getfield 37, 3) := by decide +kernel
theorem dX9_recipe_9 : decode cX9_recipe 9 = .ok (.arraylength, 1) := by decide +kernel
theorem dX9_recipe_10 : decode cX9_recipe 10 = .ok (.if_icmp .ge 19, 3) := by decide +kernel
theorem dX9_recipe_13 : decode cX9_recipe 13 = .ok (.iload_n 2, 1) := by decide +kernel
theorem dX9_recipe_14 : decode cX9_recipe 14 = .ok (.ifCond .lt 15, 3) := by decide +kernel
theorem dX9_recipe_17 : decode cX9_recipe 17 = .ok (.iload_n 2, 1) := by decide +kernel
theorem dX9_recipe_18 : decode cX9_recipe 18 = .ok (.aload_n 0, 1) := by decide +kernel
theorem dX9_recipe_19 : decode cX9_recipe 19 = .ok (.getfield 124, 3) := by decide +kernel
theorem dX9_recipe_22 : decode cX9_recipe 22 = .ok (.if_icmp .gt 7, 3) := by decide +kernel
theorem dX9_recipe_25 : decode cX9_recipe 25 = .ok (.iconst 1, 1) := by decide +kernel
theorem dX9_recipe_26 : decode cX9_recipe 26 = .ok (.goto 4, 3) := by decide +kernel
theorem dX9_recipe_29 : decode cX9_recipe 29 = .ok (.iconst 0, 1) := by decide +kernel
theorem dX9_recipe_30 : decode cX9_recipe 30 = .ok (.invokestatic 71, 3) := by decide +kernel
theorem dX9_recipe_33 : decode cX9_recipe 33 = .ok (.aload_n 0, 1) := by decide +kernel
theorem dX9_recipe_34 : decode cX9_recipe 34 = .ok (.getfield 31, 3) := by decide +kernel
theorem dX9_recipe_37 : decode cX9_recipe 37 = .ok (.iload_n 2, 1) := by decide +kernel
theorem dX9_recipe_38 : decode cX9_recipe 38 = .ok (.invokevirtual 130, 3) := by decide +kernel
theorem dX9_recipe_41 : decode cX9_recipe 41 = .ok (.astore_n 3, 1) := by decide +kernel
theorem dX9_recipe_42 : decode cX9_recipe 42 = .ok (.aload_n 0, 1) := by decide +kernel
theorem dX9_recipe_43 : decode cX9_recipe 43 = .ok (.iconst 0, 1) := by decide +kernel
theorem dX9_recipe_44 : decode cX9_recipe 44 = .ok (.putfield 124, 3) := by decide +kernel
theorem dX9_recipe_47 : decode cX9_recipe 47 = .ok (.aload_n 0, 1) := by decide +kernel
theorem dX9_recipe_48 : decode cX9_recipe 48 = .ok (.getfield 31, 3) := by decide +kernel
theorem dX9_recipe_51 : decode cX9_recipe 51 = .ok (.getfield 134, 3) := by decide +kernel
theorem dX9_recipe_54 : decode cX9_recipe 54 = .ok (.ifCond .ne 28, 3) := by decide +kernel
theorem dX9_recipe_57 : decode cX9_recipe 57 = .ok (.aload_n 0, 1) := by decide +kernel
theorem dX9_recipe_58 : decode cX9_recipe 58 = .ok (.getfield 37, 3) := by decide +kernel
theorem dX9_recipe_61 : decode cX9_recipe 61 = .ok (.iload_n 1, 1) := by decide +kernel
theorem dX9_recipe_62 : decode cX9_recipe 62 = .ok (.new 35, 3) := by decide +kernel
theorem dX9_recipe_65 : decode cX9_recipe 65 = .ok (.dup, 1) := by decide +kernel
theorem dX9_recipe_66 : decode cX9_recipe 66 = .ok (.aload_n 3, 1) := by decide +kernel
theorem dX9_recipe_67 : decode cX9_recipe 67 = .ok (.invokespecial 137, 3) := by decide +kernel
theorem dX9_recipe_70 : decode cX9_recipe 70 = .ok (.aastore, 1) := by decide +kernel
theorem dX9_recipe_71 : decode cX9_recipe 71 = .ok (.aload_n 0, 1) := by decide +kernel
theorem dX9_recipe_72 : decode cX9_recipe 72 = .ok (.aload_n 0, 1) := by decide +kernel
theorem dX9_recipe_73 : decode cX9_recipe 73 = .ok (.getfield 31, 3) := by decide +kernel
theorem dX9_recipe_76 : decode cX9_recipe 76 = .ok (.getfield 140, 3) := by decide +kernel
theorem dX9_recipe_79 : decode cX9_recipe 79 = .ok (.putfield 143, 3) := by decide +kernel
theorem dX9_recipe_82 : decode cX9_recipe 82 = .ok (.aload_n 0, 1) := by decide +kernel
theorem dX9_recipe_83 : decode cX9_recipe 83 = .ok (.getfield 31, 3) := by decide +kernel
theorem dX9_recipe_86 : decode cX9_recipe 86 = .ok (.getfield 134, 3) := by decide +kernel
theorem dX9_recipe_89 : decode cX9_recipe 89 = .ok (.ireturn, 1) := by decide +kernel
theorem dX9_fault_0 : decode cX9_fault 0 = .ok (.iload_n 1, 1) := by decide +kernel
theorem dX9_fault_1 : decode cX9_fault 1 = .ok (.lookupswitch 43 #[(0, 27), (1, 35)], 27) := by decide +kernel
theorem dX9_fault_28 : decode cX9_fault 28 = .ok (.aload_n 0, 1) := by decide +kernel
theorem dX9_fault_29 : decode cX9_fault 29 = .ok (.getfield 31, 3) := by decide +kernel
theorem dX9_fault_32 : decode cX9_fault 32 = .ok (.getfield 134, 3) := by decide +kernel
theorem dX9_fault_35 : decode cX9_fault 35 = .ok (.ireturn, 1) := by decide +kernel
theorem dX9_fault_36 : decode cX9_fault 36 = .ok (.aload_n 0, 1) := by decide +kernel
theorem dX9_fault_37 : decode cX9_fault 37 = .ok (.getfield 31, 3) := by decide +kernel
theorem dX9_fault_40 : decode cX9_fault 40 = .ok (.getfield 146, 3) := by decide +kernel
theorem dX9_fault_43 : decode cX9_fault 43 = .ok (.ireturn, 1) := by decide +kernel
theorem dX9_fault_44 : decode cX9_fault 44 = .ok (.new 149, 3) := by decide +kernel
theorem dX9_fault_47 : decode cX9_fault 47 = .ok (.dup, 1) := by decide +kernel
theorem dX9_fault_48 : decode cX9_fault 48 = .ok (.ldc 151, 2) := by decide +kernel
theorem dX9_fault_50 : decode cX9_fault 50 = .ok (.invokespecial 153, 3) := by decide +kernel
theorem dX9_fault_53 : decode cX9_fault 53 = .ok (.athrow, 1) := by decide +kernel
theorem dX9_run_0 : decode cX9_run 0 = .ok (.aload_n 0, 1) := by decide +kernel
theorem dX9_run_1 : decode cX9_run 1 = .ok (.iload_n 2, 1) := by decide +kernel
theorem dX9_run_2 : decode cX9_run 2 = .ok (.invokevirtual 98, 3) := by decide +kernel
theorem dX9_run_5 : decode cX9_run 5 = .ok (.astore 4, 2) := by decide +kernel
theorem dX9_run_7 : decode cX9_run 7 = .ok (.iload_n 1, 1) := by decide +kernel
theorem dX9_run_8 : decode cX9_run 8 = .ok (.ifCond .lt 24, 3) := by decide +kernel
theorem dX9_run_11 : decode cX9_run 11 = .ok (.iload_n 1, 1) := by decide +kernel
theorem dX9_run_12 : decode cX9_run 12 = .ok (.aload_n 0, 1) := by decide +kernel
theorem dX9_run_13 : decode cX9_run 13 = .ok (.getfield 37, 3) := by decide +kernel
theorem dX9_run_16 : decode cX9_run 16 = .ok (.arraylength, 1) := by decide +kernel
theorem dX9_run_17 : decode cX9_run 17 = .ok (.if_icmp .ge 15, 3) := by decide +kernel
theorem dX9_run_20 : decode cX9_run 20 = .ok (.iload_n 3, 1) := by decide +kernel
theorem dX9_run_21 : decode cX9_run 21 = .ok (.iconst 1, 1) := by decide +kernel
theorem dX9_run_22 : decode cX9_run 22 = .ok (.if_icmp .lt 10, 3) := by decide +kernel
theorem dX9_run_25 : decode cX9_run 25 = .ok (.iload_n 3, 1) := by decide +kernel
theorem dX9_run_26 : decode cX9_run 26 = .ok (.sipush 5000, 3) := by decide +kernel
theorem dX9_run_29 : decode cX9_run 29 = .ok (.if_icmp .le 5, 3) := by decide +kernel
theorem dX9_run_32 : decode cX9_run 32 = .ok (.iconst (-1), 1) := by decide +kernel
theorem dX9_run_33 : decode cX9_run 33 = .ok (.ireturn, 1) := by decide +kernel
theorem dX9_run_34 : decode cX9_run 34 = .ok (.aload_n 0, 1) := by decide +kernel
theorem dX9_run_35 : decode cX9_run 35 = .ok (.getfield 37, 3) := by decide +kernel
theorem dX9_run_38 : decode cX9_run 38 = .ok (.iload_n 1, 1) := by decide +kernel
theorem dX9_run_39 : decode cX9_run 39 = .ok (.aaload, 1) := by decide +kernel
theorem dX9_run_40 : decode cX9_run 40 = .ok (.astore 5, 2) := by decide +kernel
theorem dX9_run_42 : decode cX9_run 42 = .ok (.aload 5, 2) := by decide +kernel
theorem dX9_run_44 : decode cX9_run 44 = .ok (.ifnull 11, 3) := by decide +kernel
theorem dX9_run_47 : decode cX9_run 47 = .ok (.aload 4, 2) := by decide +kernel
theorem dX9_run_49 : decode cX9_run 49 = .ok (.getfield 102, 3) := by decide +kernel
theorem dX9_run_52 : decode cX9_run 52 = .ok (.ifCond .eq 5, 3) := by decide +kernel
theorem dX9_run_55 : decode cX9_run 55 = .ok (.iconst (-1), 1) := by decide +kernel
theorem dX9_run_56 : decode cX9_run 56 = .ok (.ireturn, 1) := by decide +kernel
theorem dX9_run_57 : decode cX9_run 57 = .ok (.aload_n 0, 1) := by decide +kernel
theorem dX9_run_58 : decode cX9_run 58 = .ok (.getfield 46, 3) := by decide +kernel
theorem dX9_run_61 : decode cX9_run 61 = .ok (.aload 5, 2) := by decide +kernel
theorem dX9_run_63 : decode cX9_run 63 = .ok (.getfield 156, 3) := by decide +kernel
theorem dX9_run_66 : decode cX9_run 66 = .ok (.aload 4, 2) := by decide +kernel
theorem dX9_run_68 : decode cX9_run 68 = .ok (.iload_n 3, 1) := by decide +kernel
theorem dX9_run_69 : decode cX9_run 69 = .ok (.invokevirtual 160, 3) := by decide +kernel
theorem dX9_run_72 : decode cX9_run 72 = .ok (.ireturn, 1) := by decide +kernel
theorem dX9_ran_0 : decode cX9_ran 0 = .ok (.iload_n 1, 1) := by decide +kernel
theorem dX9_ran_1 : decode cX9_ran 1 = .ok (.tableswitch 87 0 5 #[39, 47, 55, 63, 71, 79], 39) := by decide +kernel
theorem dX9_ran_40 : decode cX9_ran 40 = .ok (.aload_n 0, 1) := by decide +kernel
theorem dX9_ran_41 : decode cX9_ran 41 = .ok (.getfield 46, 3) := by decide +kernel
theorem dX9_ran_44 : decode cX9_ran 44 = .ok (.getfield 164, 3) := by decide +kernel
theorem dX9_ran_47 : decode cX9_ran 47 = .ok (.ireturn, 1) := by decide +kernel
theorem dX9_ran_48 : decode cX9_ran 48 = .ok (.aload_n 0, 1) := by decide +kernel
theorem dX9_ran_49 : decode cX9_ran 49 = .ok (.getfield 46, 3) := by decide +kernel
theorem dX9_ran_52 : decode cX9_ran 52 = .ok (.getfield 167, 3) := by decide +kernel
theorem dX9_ran_55 : decode cX9_ran 55 = .ok (.ireturn, 1) := by decide +kernel
theorem dX9_ran_56 : decode cX9_ran 56 = .ok (.aload_n 0, 1) := by decide +kernel
theorem dX9_ran_57 : decode cX9_ran 57 = .ok (.getfield 46, 3) := by decide +kernel
theorem dX9_ran_60 : decode cX9_ran 60 = .ok (.getfield 170, 3) := by decide +kernel
theorem dX9_ran_63 : decode cX9_ran 63 = .ok (.ireturn, 1) := by decide +kernel
theorem dX9_ran_64 : decode cX9_ran 64 = .ok (.aload_n 0, 1) := by decide +kernel
theorem dX9_ran_65 : decode cX9_ran 65 = .ok (.getfield 46, 3) := by decide +kernel
theorem dX9_ran_68 : decode cX9_ran 68 = .ok (.getfield 173, 3) := by decide +kernel
theorem dX9_ran_71 : decode cX9_ran 71 = .ok (.ireturn, 1) := by decide +kernel
theorem dX9_ran_72 : decode cX9_ran 72 = .ok (.aload_n 0, 1) := by decide +kernel
theorem dX9_ran_73 : decode cX9_ran 73 = .ok (.getfield 46, 3) := by decide +kernel
theorem dX9_ran_76 : decode cX9_ran 76 = .ok (.getfield 176, 3) := by decide +kernel
theorem dX9_ran_79 : decode cX9_ran 79 = .ok (.ireturn, 1) := by decide +kernel
theorem dX9_ran_80 : decode cX9_ran 80 = .ok (.aload_n 0, 1) := by decide +kernel
theorem dX9_ran_81 : decode cX9_ran 81 = .ok (.getfield 46, 3) := by decide +kernel
theorem dX9_ran_84 : decode cX9_ran 84 = .ok (.getfield 179, 3) := by decide +kernel
theorem dX9_ran_87 : decode cX9_ran 87 = .ok (.ireturn, 1) := by decide +kernel
theorem dX9_ran_88 : decode cX9_ran 88 = .ok (.new 149, 3) := by decide +kernel
theorem dX9_ran_91 : decode cX9_ran 91 = .ok (.dup, 1) := by decide +kernel
theorem dX9_ran_92 : decode cX9_ran 92 = .ok (.ldc 151, 2) := by decide +kernel
theorem dX9_ran_94 : decode cX9_ran 94 = .ok (.invokespecial 153, 3) := by decide +kernel
theorem dX9_ran_97 : decode cX9_ran 97 = .ok (.athrow, 1) := by decide +kernel
theorem dX9_plan_0 : decode cX9_plan 0 = .ok (.aload_n 0, 1) := by decide +kernel
theorem dX9_plan_1 : decode cX9_plan 1 = .ok (.iload_n 1, 1) := by decide +kernel
theorem dX9_plan_2 : decode cX9_plan 2 = .ok (.invokevirtual 98, 3) := by decide +kernel
theorem dX9_plan_5 : decode cX9_plan 5 = .ok (.astore 5, 2) := by decide +kernel
theorem dX9_plan_7 : decode cX9_plan 7 = .ok (.iload 4, 2) := by decide +kernel
theorem dX9_plan_9 : decode cX9_plan 9 = .ok (.ifCond .lt 22, 3) := by decide +kernel
theorem dX9_plan_12 : decode cX9_plan 12 = .ok (.iload 4, 2) := by decide +kernel
theorem dX9_plan_14 : decode cX9_plan 14 = .ok (.iconst 3, 1) := by decide +kernel
theorem dX9_plan_15 : decode cX9_plan 15 = .ok (.if_icmp .gt 16, 3) := by decide +kernel
theorem dX9_plan_18 : decode cX9_plan 18 = .ok (.iload_n 2, 1) := by decide +kernel
theorem dX9_plan_19 : decode cX9_plan 19 = .ok (.ifCond .lt 12, 3) := by decide +kernel
theorem dX9_plan_22 : decode cX9_plan 22 = .ok (.iload_n 2, 1) := by decide +kernel
theorem dX9_plan_23 : decode cX9_plan 23 = .ok (.iload_n 3, 1) := by decide +kernel
theorem dX9_plan_24 : decode cX9_plan 24 = .ok (.if_icmp .gt 7, 3) := by decide +kernel
theorem dX9_plan_27 : decode cX9_plan 27 = .ok (.iconst 1, 1) := by decide +kernel
theorem dX9_plan_28 : decode cX9_plan 28 = .ok (.goto 4, 3) := by decide +kernel
theorem dX9_plan_31 : decode cX9_plan 31 = .ok (.iconst 0, 1) := by decide +kernel
theorem dX9_plan_32 : decode cX9_plan 32 = .ok (.invokestatic 71, 3) := by decide +kernel
theorem dX9_plan_35 : decode cX9_plan 35 = .ok (.aload 5, 2) := by decide +kernel
theorem dX9_plan_37 : decode cX9_plan 37 = .ok (.getfield 102, 3) := by decide +kernel
theorem dX9_plan_40 : decode cX9_plan 40 = .ok (.ifCond .eq 5, 3) := by decide +kernel
theorem dX9_plan_43 : decode cX9_plan 43 = .ok (.iconst (-1), 1) := by decide +kernel
theorem dX9_plan_44 : decode cX9_plan 44 = .ok (.ireturn, 1) := by decide +kernel
theorem dX9_plan_45 : decode cX9_plan 45 = .ok (.aload_n 0, 1) := by decide +kernel
theorem dX9_plan_46 : decode cX9_plan 46 = .ok (.getfield 53, 3) := by decide +kernel
theorem dX9_plan_49 : decode cX9_plan 49 = .ok (.aload 5, 2) := by decide +kernel
theorem dX9_plan_51 : decode cX9_plan 51 = .ok (.iload_n 2, 1) := by decide +kernel
theorem dX9_plan_52 : decode cX9_plan 52 = .ok (.iload_n 3, 1) := by decide +kernel
theorem dX9_plan_53 : decode cX9_plan 53 = .ok (.iload 4, 2) := by decide +kernel
theorem dX9_plan_55 : decode cX9_plan 55 = .ok (.invokevirtual 182, 3) := by decide +kernel
theorem dX9_plan_58 : decode cX9_plan 58 = .ok (.ireturn, 1) := by decide +kernel
theorem dX9_planned_0 : decode cX9_planned 0 = .ok (.iload_n 1, 1) := by decide +kernel
theorem dX9_planned_1 : decode cX9_planned 1 = .ok (.ifCond .lt 19, 3) := by decide +kernel
theorem dX9_planned_4 : decode cX9_planned 4 = .ok (.iload_n 1, 1) := by decide +kernel
theorem dX9_planned_5 : decode cX9_planned 5 = .ok (.aload_n 0, 1) := by decide +kernel
theorem dX9_planned_6 : decode cX9_planned 6 = .ok (.getfield 53, 3) := by decide +kernel
theorem dX9_planned_9 : decode cX9_planned 9 = .ok (.getfield 186, 3) := by decide +kernel
theorem dX9_planned_12 : decode cX9_planned 12 = .ok (.if_icmp .ge 8, 3) := by decide +kernel
theorem dX9_planned_15 : decode cX9_planned 15 = .ok (.iload_n 1, 1) := by decide +kernel
theorem dX9_planned_16 : decode cX9_planned 16 = .ok (.iconst 3, 1) := by decide +kernel
theorem dX9_planned_17 : decode cX9_planned 17 = .ok (.if_icmp .lt 13, 3) := by decide +kernel
theorem dX9_planned_20 : decode cX9_planned 20 = .ok (.new 149, 3) := by decide +kernel
theorem dX9_planned_23 : decode cX9_planned 23 = .ok (.dup, 1) := by decide +kernel
theorem dX9_planned_24 : decode cX9_planned 24 = .ok (.ldc 189, 2) := by decide +kernel
theorem dX9_planned_26 : decode cX9_planned 26 = .ok (.invokespecial 153, 3) := by decide +kernel
theorem dX9_planned_29 : decode cX9_planned 29 = .ok (.athrow, 1) := by decide +kernel
theorem dX9_planned_30 : decode cX9_planned 30 = .ok (.iload_n 2, 1) := by decide +kernel
theorem dX9_planned_31 : decode cX9_planned 31 = .ok (.tableswitch 55 0 2 #[25, 35, 45], 25) := by decide +kernel
theorem dX9_planned_56 : decode cX9_planned 56 = .ok (.aload_n 0, 1) := by decide +kernel
theorem dX9_planned_57 : decode cX9_planned 57 = .ok (.getfield 53, 3) := by decide +kernel
theorem dX9_planned_60 : decode cX9_planned 60 = .ok (.getfield 191, 3) := by decide +kernel
theorem dX9_planned_63 : decode cX9_planned 63 = .ok (.iload_n 1, 1) := by decide +kernel
theorem dX9_planned_64 : decode cX9_planned 64 = .ok (.iaload, 1) := by decide +kernel
theorem dX9_planned_65 : decode cX9_planned 65 = .ok (.ireturn, 1) := by decide +kernel
theorem dX9_planned_66 : decode cX9_planned 66 = .ok (.aload_n 0, 1) := by decide +kernel
theorem dX9_planned_67 : decode cX9_planned 67 = .ok (.getfield 53, 3) := by decide +kernel
theorem dX9_planned_70 : decode cX9_planned 70 = .ok (.getfield 195, 3) := by decide +kernel
theorem dX9_planned_73 : decode cX9_planned 73 = .ok (.iload_n 1, 1) := by decide +kernel
theorem dX9_planned_74 : decode cX9_planned 74 = .ok (.iaload, 1) := by decide +kernel
theorem dX9_planned_75 : decode cX9_planned 75 = .ok (.ireturn, 1) := by decide +kernel
theorem dX9_planned_76 : decode cX9_planned 76 = .ok (.aload_n 0, 1) := by decide +kernel
theorem dX9_planned_77 : decode cX9_planned 77 = .ok (.getfield 53, 3) := by decide +kernel
theorem dX9_planned_80 : decode cX9_planned 80 = .ok (.getfield 198, 3) := by decide +kernel
theorem dX9_planned_83 : decode cX9_planned 83 = .ok (.iload_n 1, 1) := by decide +kernel
theorem dX9_planned_84 : decode cX9_planned 84 = .ok (.iaload, 1) := by decide +kernel
theorem dX9_planned_85 : decode cX9_planned 85 = .ok (.ireturn, 1) := by decide +kernel
theorem dX9_planned_86 : decode cX9_planned 86 = .ok (.new 149, 3) := by decide +kernel
theorem dX9_planned_89 : decode cX9_planned 89 = .ok (.dup, 1) := by decide +kernel
theorem dX9_planned_90 : decode cX9_planned 90 = .ok (.ldc 151, 2) := by decide +kernel
theorem dX9_planned_92 : decode cX9_planned 92 = .ok (.invokespecial 153, 3) := by decide +kernel
theorem dX9_planned_95 : decode cX9_planned 95 = .ok (.athrow, 1) := by decide +kernel
theorem dX9_vat_0 : decode cX9_vat 0 = .ok (.aload_n 0, 1) := by decide +kernel
theorem dX9_vat_1 : decode cX9_vat 1 = .ok (.getfield 10, 3) := by decide +kernel
theorem dX9_vat_4 : decode cX9_vat 4 = .ok (.iload_n 1, 1) := by decide +kernel
theorem dX9_vat_5 : decode cX9_vat 5 = .ok (.invokevirtual 57, 3) := by decide +kernel
theorem dX9_vat_8 : decode cX9_vat 8 = .ok (.astore_n 3, 1) := by decide +kernel
theorem dX9_vat_9 : decode cX9_vat 9 = .ok (.iload_n 2, 1) := by decide +kernel
theorem dX9_vat_10 : decode cX9_vat 10 = .ok (.tableswitch 68 0 5 #[38, 43, 48, 53, 58, 63], 38) := by decide +kernel
theorem dX9_vat_48 : decode cX9_vat 48 = .ok (.aload_n 3, 1) := by decide +kernel
theorem dX9_vat_49 : decode cX9_vat 49 = .ok (.getfield 62, 3) := by decide +kernel
theorem dX9_vat_52 : decode cX9_vat 52 = .ok (.ireturn, 1) := by decide +kernel
theorem dX9_vat_53 : decode cX9_vat 53 = .ok (.aload_n 3, 1) := by decide +kernel
theorem dX9_vat_54 : decode cX9_vat 54 = .ok (.getfield 201, 3) := by decide +kernel
theorem dX9_vat_57 : decode cX9_vat 57 = .ok (.ireturn, 1) := by decide +kernel
theorem dX9_vat_58 : decode cX9_vat 58 = .ok (.aload_n 3, 1) := by decide +kernel
theorem dX9_vat_59 : decode cX9_vat 59 = .ok (.getfield 204, 3) := by decide +kernel
theorem dX9_vat_62 : decode cX9_vat 62 = .ok (.ireturn, 1) := by decide +kernel
theorem dX9_vat_63 : decode cX9_vat 63 = .ok (.aload_n 3, 1) := by decide +kernel
theorem dX9_vat_64 : decode cX9_vat 64 = .ok (.getfield 79, 3) := by decide +kernel
theorem dX9_vat_67 : decode cX9_vat 67 = .ok (.ireturn, 1) := by decide +kernel
theorem dX9_vat_68 : decode cX9_vat 68 = .ok (.aload_n 3, 1) := by decide +kernel
theorem dX9_vat_69 : decode cX9_vat 69 = .ok (.getfield 207, 3) := by decide +kernel
theorem dX9_vat_72 : decode cX9_vat 72 = .ok (.ireturn, 1) := by decide +kernel
theorem dX9_vat_73 : decode cX9_vat 73 = .ok (.aload_n 3, 1) := by decide +kernel
theorem dX9_vat_74 : decode cX9_vat 74 = .ok (.getfield 210, 3) := by decide +kernel
theorem dX9_vat_77 : decode cX9_vat 77 = .ok (.ireturn, 1) := by decide +kernel
theorem dX9_vat_78 : decode cX9_vat 78 = .ok (.new 149, 3) := by decide +kernel
theorem dX9_vat_81 : decode cX9_vat 81 = .ok (.dup, 1) := by decide +kernel
theorem dX9_vat_82 : decode cX9_vat 82 = .ok (.ldc 151, 2) := by decide +kernel
theorem dX9_vat_84 : decode cX9_vat 84 = .ok (.invokespecial 153, 3) := by decide +kernel
theorem dX9_vat_87 : decode cX9_vat 87 = .ok (.athrow, 1) := by decide +kernel
theorem dX9_about_0 : decode cX9_about 0 = .ok (.aload_n 0, 1) := by decide +kernel
theorem dX9_about_1 : decode cX9_about 1 = .ok (.iload_n 1, 1) := by decide +kernel
theorem dX9_about_2 : decode cX9_about 2 = .ok (.invokevirtual 98, 3) := by decide +kernel
theorem dX9_about_5 : decode cX9_about 5 = .ok (.astore_n 3, 1) := by decide +kernel
theorem dX9_about_6 : decode cX9_about 6 = .ok (.iload_n 2, 1) := by decide +kernel
theorem dX9_about_7 : decode cX9_about 7 = .ok (.tableswitch 93 0 7 #[45, 50, 55, 60, 65, 78, 83, 88], 45) := by decide +kernel
theorem dX9_about_52 : decode cX9_about 52 = .ok (.aload_n 3, 1) := by decide +kernel
theorem dX9_about_53 : decode cX9_about 53 = .ok (.getfield 213, 3) := by decide +kernel
theorem dX9_about_56 : decode cX9_about 56 = .ok (.ireturn, 1) := by decide +kernel
theorem dX9_about_57 : decode cX9_about 57 = .ok (.aload_n 3, 1) := by decide +kernel
theorem dX9_about_58 : decode cX9_about 58 = .ok (.getfield 216, 3) := by decide +kernel
theorem dX9_about_61 : decode cX9_about 61 = .ok (.ireturn, 1) := by decide +kernel
theorem dX9_about_62 : decode cX9_about 62 = .ok (.aload_n 3, 1) := by decide +kernel
theorem dX9_about_63 : decode cX9_about 63 = .ok (.getfield 219, 3) := by decide +kernel
theorem dX9_about_66 : decode cX9_about 66 = .ok (.ireturn, 1) := by decide +kernel
theorem dX9_about_67 : decode cX9_about 67 = .ok (.aload_n 3, 1) := by decide +kernel
theorem dX9_about_68 : decode cX9_about 68 = .ok (.invokevirtual 222, 3) := by decide +kernel
theorem dX9_about_71 : decode cX9_about 71 = .ok (.ireturn, 1) := by decide +kernel
theorem dX9_about_72 : decode cX9_about 72 = .ok (.aload_n 3, 1) := by decide +kernel
theorem dX9_about_73 : decode cX9_about 73 = .ok (.getfield 102, 3) := by decide +kernel
theorem dX9_about_76 : decode cX9_about 76 = .ok (.ifCond .eq 7, 3) := by decide +kernel
theorem dX9_about_79 : decode cX9_about 79 = .ok (.iconst 1, 1) := by decide +kernel
theorem dX9_about_80 : decode cX9_about 80 = .ok (.goto 4, 3) := by decide +kernel
theorem dX9_about_83 : decode cX9_about 83 = .ok (.iconst 0, 1) := by decide +kernel
theorem dX9_about_84 : decode cX9_about 84 = .ok (.ireturn, 1) := by decide +kernel
theorem dX9_about_85 : decode cX9_about 85 = .ok (.aload_n 3, 1) := by decide +kernel
theorem dX9_about_86 : decode cX9_about 86 = .ok (.getfield 226, 3) := by decide +kernel
theorem dX9_about_89 : decode cX9_about 89 = .ok (.ireturn, 1) := by decide +kernel
theorem dX9_about_90 : decode cX9_about 90 = .ok (.aload_n 3, 1) := by decide +kernel
theorem dX9_about_91 : decode cX9_about 91 = .ok (.getfield 229, 3) := by decide +kernel
theorem dX9_about_94 : decode cX9_about 94 = .ok (.ireturn, 1) := by decide +kernel
theorem dX9_about_95 : decode cX9_about 95 = .ok (.aload_n 3, 1) := by decide +kernel
theorem dX9_about_96 : decode cX9_about 96 = .ok (.getfield 232, 3) := by decide +kernel
theorem dX9_about_99 : decode cX9_about 99 = .ok (.ireturn, 1) := by decide +kernel
theorem dX9_about_100 : decode cX9_about 100 = .ok (.new 149, 3) := by decide +kernel
theorem dX9_about_103 : decode cX9_about 103 = .ok (.dup, 1) := by decide +kernel
theorem dX9_about_104 : decode cX9_about 104 = .ok (.ldc 151, 2) := by decide +kernel
theorem dX9_about_106 : decode cX9_about 106 = .ok (.invokespecial 153, 3) := by decide +kernel
theorem dX9_about_109 : decode cX9_about 109 = .ok (.athrow, 1) := by decide +kernel
theorem dX9_count_0 : decode cX9_count 0 = .ok (.iload_n 1, 1) := by decide +kernel
theorem dX9_count_1 : decode cX9_count 1 = .ok (.tableswitch 75 0 5 #[39, 47, 55, 60, 65, 70], 39) := by decide +kernel
theorem dX9_count_40 : decode cX9_count 40 = .ok (.aload_n 0, 1) := by decide +kernel
theorem dX9_count_41 : decode cX9_count 41 = .ok (.getfield 10, 3) := by decide +kernel
theorem dX9_count_44 : decode cX9_count 44 = .ok (.getfield 89, 3) := by decide +kernel
theorem dX9_count_47 : decode cX9_count 47 = .ok (.ireturn, 1) := by decide +kernel
theorem dX9_count_48 : decode cX9_count 48 = .ok (.aload_n 0, 1) := by decide +kernel
theorem dX9_count_49 : decode cX9_count 49 = .ok (.getfield 10, 3) := by decide +kernel
theorem dX9_count_52 : decode cX9_count 52 = .ok (.getfield 233, 3) := by decide +kernel
theorem dX9_count_55 : decode cX9_count 55 = .ok (.ireturn, 1) := by decide +kernel
theorem dX9_count_56 : decode cX9_count 56 = .ok (.aload_n 0, 1) := by decide +kernel
theorem dX9_count_57 : decode cX9_count 57 = .ok (.getfield 92, 3) := by decide +kernel
theorem dX9_count_60 : decode cX9_count 60 = .ok (.ireturn, 1) := by decide +kernel
theorem dX9_count_61 : decode cX9_count 61 = .ok (.aload_n 0, 1) := by decide +kernel
theorem dX9_count_62 : decode cX9_count 62 = .ok (.getfield 68, 3) := by decide +kernel
theorem dX9_count_65 : decode cX9_count 65 = .ok (.ireturn, 1) := by decide +kernel
theorem dX9_count_66 : decode cX9_count 66 = .ok (.aload_n 0, 1) := by decide +kernel
theorem dX9_count_67 : decode cX9_count 67 = .ok (.getfield 124, 3) := by decide +kernel
theorem dX9_count_70 : decode cX9_count 70 = .ok (.ireturn, 1) := by decide +kernel
theorem dX9_count_71 : decode cX9_count 71 = .ok (.aload_n 0, 1) := by decide +kernel
theorem dX9_count_72 : decode cX9_count 72 = .ok (.getfield 143, 3) := by decide +kernel
theorem dX9_count_75 : decode cX9_count 75 = .ok (.ireturn, 1) := by decide +kernel
theorem dX9_count_76 : decode cX9_count 76 = .ok (.new 149, 3) := by decide +kernel
theorem dX9_count_79 : decode cX9_count 79 = .ok (.dup, 1) := by decide +kernel
theorem dX9_count_80 : decode cX9_count 80 = .ok (.ldc 151, 2) := by decide +kernel
theorem dX9_count_82 : decode cX9_count 82 = .ok (.invokespecial 153, 3) := by decide +kernel
theorem dX9_count_85 : decode cX9_count 85 = .ok (.athrow, 1) := by decide +kernel
theorem dX9_faded_0 : decode cX9_faded 0 = .ok (.aload_n 0, 1) := by decide +kernel
theorem dX9_faded_1 : decode cX9_faded 1 = .ok (.iload_n 1, 1) := by decide +kernel
theorem dX9_faded_2 : decode cX9_faded 2 = .ok (.invokevirtual 98, 3) := by decide +kernel
theorem dX9_faded_5 : decode cX9_faded 5 = .ok (.astore 4, 2) := by decide +kernel
theorem dX9_faded_7 : decode cX9_faded 7 = .ok (.iload_n 3, 1) := by decide +kernel
theorem dX9_faded_8 : decode cX9_faded 8 = .ok (.ifCond .lt 22, 3) := by decide +kernel
theorem dX9_faded_11 : decode cX9_faded 11 = .ok (.iload_n 3, 1) := by decide +kernel
theorem dX9_faded_12 : decode cX9_faded 12 = .ok (.iconst 1, 1) := by decide +kernel
theorem dX9_faded_13 : decode cX9_faded 13 = .ok (.if_icmp .gt 17, 3) := by decide +kernel
theorem dX9_faded_16 : decode cX9_faded 16 = .ok (.iload_n 2, 1) := by decide +kernel
theorem dX9_faded_17 : decode cX9_faded 17 = .ok (.ifCond .lt 13, 3) := by decide +kernel
theorem dX9_faded_20 : decode cX9_faded 20 = .ok (.iload_n 2, 1) := by decide +kernel
theorem dX9_faded_21 : decode cX9_faded 21 = .ok (.ldc 61, 2) := by decide +kernel
theorem dX9_faded_23 : decode cX9_faded 23 = .ok (.if_icmp .gt 7, 3) := by decide +kernel
theorem dX9_faded_26 : decode cX9_faded 26 = .ok (.iconst 1, 1) := by decide +kernel
theorem dX9_faded_27 : decode cX9_faded 27 = .ok (.goto 4, 3) := by decide +kernel
theorem dX9_faded_30 : decode cX9_faded 30 = .ok (.iconst 0, 1) := by decide +kernel
theorem dX9_faded_31 : decode cX9_faded 31 = .ok (.invokestatic 71, 3) := by decide +kernel
theorem dX9_faded_34 : decode cX9_faded 34 = .ok (.aload 4, 2) := by decide +kernel
theorem dX9_faded_36 : decode cX9_faded 36 = .ok (.iload_n 2, 1) := by decide +kernel
theorem dX9_faded_37 : decode cX9_faded 37 = .ok (.invokevirtual 236, 3) := by decide +kernel
theorem dX9_faded_40 : decode cX9_faded 40 = .ok (.ifCond .ne 5, 3) := by decide +kernel
theorem dX9_faded_43 : decode cX9_faded 43 = .ok (.iconst (-1), 1) := by decide +kernel
theorem dX9_faded_44 : decode cX9_faded 44 = .ok (.ireturn, 1) := by decide +kernel
theorem dX9_faded_45 : decode cX9_faded 45 = .ok (.iload_n 3, 1) := by decide +kernel
theorem dX9_faded_46 : decode cX9_faded 46 = .ok (.ifCond .ne 12, 3) := by decide +kernel
theorem dX9_faded_49 : decode cX9_faded 49 = .ok (.aload 4, 2) := by decide +kernel
theorem dX9_faded_51 : decode cX9_faded 51 = .ok (.iload_n 2, 1) := by decide +kernel
theorem dX9_faded_52 : decode cX9_faded 52 = .ok (.invokevirtual 239, 3) := by decide +kernel
theorem dX9_faded_55 : decode cX9_faded 55 = .ok (.goto 9, 3) := by decide +kernel
theorem dX9_faded_58 : decode cX9_faded 58 = .ok (.aload 4, 2) := by decide +kernel
theorem dX9_faded_60 : decode cX9_faded 60 = .ok (.iload_n 2, 1) := by decide +kernel
theorem dX9_faded_61 : decode cX9_faded 61 = .ok (.invokevirtual 243, 3) := by decide +kernel
theorem dX9_faded_64 : decode cX9_faded 64 = .ok (.ireturn, 1) := by decide +kernel
theorem dX9_matching_0 : decode cX9_matching 0 = .ok (.aload_n 0, 1) := by decide +kernel
theorem dX9_matching_1 : decode cX9_matching 1 = .ok (.iload_n 1, 1) := by decide +kernel
theorem dX9_matching_2 : decode cX9_matching 2 = .ok (.invokevirtual 98, 3) := by decide +kernel
theorem dX9_matching_5 : decode cX9_matching 5 = .ok (.astore_n 3, 1) := by decide +kernel
theorem dX9_matching_6 : decode cX9_matching 6 = .ok (.iload_n 2, 1) := by decide +kernel
theorem dX9_matching_7 : decode cX9_matching 7 = .ok (.ifCond .lt 13, 3) := by decide +kernel
theorem dX9_matching_10 : decode cX9_matching 10 = .ok (.iload_n 2, 1) := by decide +kernel
theorem dX9_matching_11 : decode cX9_matching 11 = .ok (.ldc 61, 2) := by decide +kernel
theorem dX9_matching_13 : decode cX9_matching 13 = .ok (.if_icmp .gt 7, 3) := by decide +kernel
theorem dX9_matching_16 : decode cX9_matching 16 = .ok (.iconst 1, 1) := by decide +kernel
theorem dX9_matching_17 : decode cX9_matching 17 = .ok (.goto 4, 3) := by decide +kernel
theorem dX9_matching_20 : decode cX9_matching 20 = .ok (.iconst 0, 1) := by decide +kernel
theorem dX9_matching_21 : decode cX9_matching 21 = .ok (.invokestatic 71, 3) := by decide +kernel
theorem dX9_matching_24 : decode cX9_matching 24 = .ok (.iconst 0, 1) := by decide +kernel
theorem dX9_matching_25 : decode cX9_matching 25 = .ok (.istore 4, 2) := by decide +kernel
theorem dX9_matching_27 : decode cX9_matching 27 = .ok (.iconst 0, 1) := by decide +kernel
theorem dX9_matching_28 : decode cX9_matching 28 = .ok (.istore 5, 2) := by decide +kernel
theorem dX9_matching_30 : decode cX9_matching 30 = .ok (.iload 5, 2) := by decide +kernel
theorem dX9_matching_32 : decode cX9_matching 32 = .ok (.aload_n 0, 1) := by decide +kernel
theorem dX9_matching_33 : decode cX9_matching 33 = .ok (.getfield 92, 3) := by decide +kernel
theorem dX9_matching_36 : decode cX9_matching 36 = .ok (.if_icmp .ge 58, 3) := by decide +kernel
theorem dX9_matching_39 : decode cX9_matching 39 = .ok (.iload 5, 2) := by decide +kernel
theorem dX9_matching_41 : decode cX9_matching 41 = .ok (.aload_n 0, 1) := by decide +kernel
theorem dX9_matching_42 : decode cX9_matching 42 = .ok (.getfield 18, 3) := by decide +kernel
theorem dX9_matching_45 : decode cX9_matching 45 = .ok (.arraylength, 1) := by decide +kernel
theorem dX9_matching_46 : decode cX9_matching 46 = .ok (.if_icmp .ge 48, 3) := by decide +kernel
theorem dX9_matching_49 : decode cX9_matching 49 = .ok (.aload_n 0, 1) := by decide +kernel
theorem dX9_matching_50 : decode cX9_matching 50 = .ok (.getfield 18, 3) := by decide +kernel
theorem dX9_matching_53 : decode cX9_matching 53 = .ok (.iload 5, 2) := by decide +kernel
theorem dX9_matching_55 : decode cX9_matching 55 = .ok (.aaload, 1) := by decide +kernel
theorem dX9_matching_56 : decode cX9_matching 56 = .ok (.astore 6, 2) := by decide +kernel
theorem dX9_matching_58 : decode cX9_matching 58 = .ok (.aload 6, 2) := by decide +kernel
theorem dX9_matching_60 : decode cX9_matching 60 = .ok (.ifnull 28, 3) := by decide +kernel
theorem dX9_matching_63 : decode cX9_matching 63 = .ok (.iload 5, 2) := by decide +kernel
theorem dX9_matching_65 : decode cX9_matching 65 = .ok (.iload_n 1, 1) := by decide +kernel
theorem dX9_matching_66 : decode cX9_matching 66 = .ok (.if_icmp .eq 22, 3) := by decide +kernel
theorem dX9_matching_69 : decode cX9_matching 69 = .ok (.aload_n 3, 1) := by decide +kernel
theorem dX9_matching_70 : decode cX9_matching 70 = .ok (.aload 6, 2) := by decide +kernel
theorem dX9_matching_72 : decode cX9_matching 72 = .ok (.iload_n 2, 1) := by decide +kernel
theorem dX9_matching_73 : decode cX9_matching 73 = .ok (.invokevirtual 246, 3) := by decide +kernel
