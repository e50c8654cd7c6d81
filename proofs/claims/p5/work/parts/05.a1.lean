theorem dX4_doDip_60 : decode cX4_doDip 60 = .ok (.ireturn, 1) := by decide +kernel
theorem dX4_doAir_0 : decode cX4_doAir 0 = .ok (.aload_n 1, 1) := by decide +kernel
theorem dX4_doAir_1 : decode cX4_doAir 1 = .ok (.getfield 137, 3) := by decide +kernel
theorem dX4_doAir_4 : decode cX4_doAir 4 = .ok (.iconst 1, 1) := by decide +kernel
theorem dX4_doAir_5 : decode cX4_doAir 5 = .ok (.if_icmp .ge 5, 3) := by decide +kernel
theorem dX4_doAir_8 : decode cX4_doAir 8 = .ok (.iconst 3, 1) := by decide +kernel
theorem dX4_doAir_9 : decode cX4_doAir 9 = .ok (.ireturn, 1) := by decide +kernel
theorem dX4_doAir_10 : decode cX4_doAir 10 = .ok (.aload_n 0, 1) := by decide +kernel
theorem dX4_doAir_11 : decode cX4_doAir 11 = .ok (.getfield 15, 3) := by decide +kernel
theorem dX4_doAir_14 : decode cX4_doAir 14 = .ok (.aload_n 1, 1) := by decide +kernel
theorem dX4_doAir_15 : decode cX4_doAir 15 = .ok (.invokevirtual 142, 3) := by decide +kernel
theorem dX4_doAir_18 : decode cX4_doAir 18 = .ok (.pop, 1) := by decide +kernel
theorem dX4_doAir_19 : decode cX4_doAir 19 = .ok (.iconst 0, 1) := by decide +kernel
theorem dX4_doAir_20 : decode cX4_doAir 20 = .ok (.ireturn, 1) := by decide +kernel
theorem dX4_doRest_0 : decode cX4_doRest 0 = .ok (.iconst 0, 1) := by decide +kernel
theorem dX4_doRest_1 : decode cX4_doRest 1 = .ok (.istore_n 2, 1) := by decide +kernel
theorem dX4_doRest_2 : decode cX4_doRest 2 = .ok (.iload_n 2, 1) := by decide +kernel
theorem dX4_doRest_3 : decode cX4_doRest 3 = .ok (.iload_n 1, 1) := by decide +kernel
theorem dX4_doRest_4 : decode cX4_doRest 4 = .ok (.if_icmp .ge 35, 3) := by decide +kernel
theorem dX4_doRest_7 : decode cX4_doRest 7 = .ok (.aload_n 0, 1) := by decide +kernel
theorem dX4_doRest_8 : decode cX4_doRest 8 = .ok (.invokevirtual 47, 3) := by decide +kernel
theorem dX4_doRest_11 : decode cX4_doRest 11 = .ok (.ifCond .ne 5, 3) := by decide +kernel
theorem dX4_doRest_14 : decode cX4_doRest 14 = .ok (.iconst (-1), 1) := by decide +kernel
theorem dX4_doRest_15 : decode cX4_doRest 15 = .ok (.ireturn, 1) := by decide +kernel
theorem dX4_doRest_16 : decode cX4_doRest 16 = .ok (.aload_n 0, 1) := by decide +kernel
theorem dX4_doRest_17 : decode cX4_doRest 17 = .ok (.getfield 15, 3) := by decide +kernel
theorem dX4_doRest_20 : decode cX4_doRest 20 = .ok (.invokevirtual 145, 3) := by decide +kernel
theorem dX4_doRest_23 : decode cX4_doRest 23 = .ok (.aload_n 0, 1) := by decide +kernel
theorem dX4_doRest_24 : decode cX4_doRest 24 = .ok (.dup, 1) := by decide +kernel
theorem dX4_doRest_25 : decode cX4_doRest 25 = .ok (.getfield 31, 3) := by decide +kernel
theorem dX4_doRest_28 : decode cX4_doRest 28 = .ok (.iconst 1, 1) := by decide +kernel
theorem dX4_doRest_29 : decode cX4_doRest 29 = .ok (.iadd, 1) := by decide +kernel
theorem dX4_doRest_30 : decode cX4_doRest 30 = .ok (.putfield 31, 3) := by decide +kernel
theorem dX4_doRest_33 : decode cX4_doRest 33 = .ok (.iinc 2 1, 3) := by decide +kernel
theorem dX4_doRest_36 : decode cX4_doRest 36 = .ok (.goto (-34), 3) := by decide +kernel
theorem dX4_doRest_39 : decode cX4_doRest 39 = .ok (.iconst 0, 1) := by decide +kernel
theorem dX4_doRest_40 : decode cX4_doRest 40 = .ok (.ireturn, 1) := by decide +kernel
theorem dX4_doLime_0 : decode cX4_doLime 0 = .ok (.aload_n 1, 1) := by decide +kernel
theorem dX4_doLime_1 : decode cX4_doLime 1 = .ok (.getfield 126, 3) := by decide +kernel
theorem dX4_doLime_4 : decode cX4_doLime 4 = .ok (.iconst 2, 1) := by decide +kernel
theorem dX4_doLime_5 : decode cX4_doLime 5 = .ok (.if_icmp .eq 5, 3) := by decide +kernel
theorem dX4_doLime_8 : decode cX4_doLime 8 = .ok (.iconst 4, 1) := by decide +kernel
theorem dX4_doLime_9 : decode cX4_doLime 9 = .ok (.ireturn, 1) := by decide +kernel
theorem dX4_doLime_10 : decode cX4_doLime 10 = .ok (.aload_n 1, 1) := by decide +kernel
theorem dX4_doLime_11 : decode cX4_doLime 11 = .ok (.invokevirtual 148, 3) := by decide +kernel
theorem dX4_doLime_14 : decode cX4_doLime 14 = .ok (.iconst 0, 1) := by decide +kernel
theorem dX4_doLime_15 : decode cX4_doLime 15 = .ok (.ireturn, 1) := by decide +kernel
theorem dX4_doTimes_0 : decode cX4_doTimes 0 = .ok (.iconst 0, 1) := by decide +kernel
theorem dX4_doTimes_1 : decode cX4_doTimes 1 = .ok (.istore 4, 2) := by decide +kernel
theorem dX4_doTimes_3 : decode cX4_doTimes 3 = .ok (.iconst 0, 1) := by decide +kernel
theorem dX4_doTimes_4 : decode cX4_doTimes 4 = .ok (.istore 5, 2) := by decide +kernel
theorem dX4_doTimes_6 : decode cX4_doTimes 6 = .ok (.iload 5, 2) := by decide +kernel
theorem dX4_doTimes_8 : decode cX4_doTimes 8 = .ok (.aload_n 1, 1) := by decide +kernel
theorem dX4_doTimes_9 : decode cX4_doTimes 9 = .ok (.getfield 76, 3) := by decide +kernel
theorem dX4_doTimes_12 : decode cX4_doTimes 12 = .ok (.if_icmp .ge 37, 3) := by decide +kernel
theorem dX4_doTimes_15 : decode cX4_doTimes 15 = .ok (.iload 4, 2) := by decide +kernel
theorem dX4_doTimes_17 : decode cX4_doTimes 17 = .ok (.ifCond .ne 32, 3) := by decide +kernel
theorem dX4_doTimes_20 : decode cX4_doTimes 20 = .ok (.aload_n 0, 1) := by decide +kernel
theorem dX4_doTimes_21 : decode cX4_doTimes 21 = .ok (.invokevirtual 47, 3) := by decide +kernel
theorem dX4_doTimes_24 : decode cX4_doTimes 24 = .ok (.ifCond .eq 16, 3) := by decide +kernel
theorem dX4_doTimes_27 : decode cX4_doTimes 27 = .ok (.aload_n 0, 1) := by decide +kernel
theorem dX4_doTimes_28 : decode cX4_doTimes 28 = .ok (.aload_n 1, 1) := by decide +kernel
theorem dX4_doTimes_29 : decode cX4_doTimes 29 = .ok (.getfield 114, 3) := by decide +kernel
theorem dX4_doTimes_32 : decode cX4_doTimes 32 = .ok (.aload_n 2, 1) := by decide +kernel
theorem dX4_doTimes_33 : decode cX4_doTimes 33 = .ok (.iload_n 3, 1) := by decide +kernel
theorem dX4_doTimes_34 : decode cX4_doTimes 34 = .ok (.invokevirtual 34, 3) := by decide +kernel
theorem dX4_doTimes_37 : decode cX4_doTimes 37 = .ok (.goto 4, 3) := by decide +kernel
theorem dX4_doTimes_40 : decode cX4_doTimes 40 = .ok (.iconst (-1), 1) := by decide +kernel
theorem dX4_doTimes_41 : decode cX4_doTimes 41 = .ok (.istore 4, 2) := by decide +kernel
theorem dX4_doTimes_43 : decode cX4_doTimes 43 = .ok (.iinc 5 1, 3) := by decide +kernel
theorem dX4_doTimes_46 : decode cX4_doTimes 46 = .ok (.goto (-40), 3) := by decide +kernel
theorem dX4_doTimes_49 : decode cX4_doTimes 49 = .ok (.iload 4, 2) := by decide +kernel
theorem dX4_doTimes_51 : decode cX4_doTimes 51 = .ok (.ireturn, 1) := by decide +kernel
theorem dX4_doUntil_0 : decode cX4_doUntil 0 = .ok (.iconst 0, 1) := by decide +kernel
theorem dX4_doUntil_1 : decode cX4_doUntil 1 = .ok (.istore 4, 2) := by decide +kernel
theorem dX4_doUntil_3 : decode cX4_doUntil 3 = .ok (.iconst 0, 1) := by decide +kernel
theorem dX4_doUntil_4 : decode cX4_doUntil 4 = .ok (.istore 5, 2) := by decide +kernel
theorem dX4_doUntil_6 : decode cX4_doUntil 6 = .ok (.iload 5, 2) := by decide +kernel
theorem dX4_doUntil_8 : decode cX4_doUntil 8 = .ok (.aload_n 0, 1) := by decide +kernel
theorem dX4_doUntil_9 : decode cX4_doUntil 9 = .ok (.getfield 19, 3) := by decide +kernel
theorem dX4_doUntil_12 : decode cX4_doUntil 12 = .ok (.if_icmp .gt 48, 3) := by decide +kernel
theorem dX4_doUntil_15 : decode cX4_doUntil 15 = .ok (.iload 4, 2) := by decide +kernel
theorem dX4_doUntil_17 : decode cX4_doUntil 17 = .ok (.ifCond .ne 43, 3) := by decide +kernel
theorem dX4_doUntil_20 : decode cX4_doUntil 20 = .ok (.aload_n 0, 1) := by decide +kernel
theorem dX4_doUntil_21 : decode cX4_doUntil 21 = .ok (.invokevirtual 47, 3) := by decide +kernel
theorem dX4_doUntil_24 : decode cX4_doUntil 24 = .ok (.ifCond .ne 5, 3) := by decide +kernel
theorem dX4_doUntil_27 : decode cX4_doUntil 27 = .ok (.iconst (-1), 1) := by decide +kernel
theorem dX4_doUntil_28 : decode cX4_doUntil 28 = .ok (.ireturn, 1) := by decide +kernel
theorem dX4_doUntil_29 : decode cX4_doUntil 29 = .ok (.aload_n 2, 1) := by decide +kernel
theorem dX4_doUntil_30 : decode cX4_doUntil 30 = .ok (.invokevirtual 151, 3) := by decide +kernel
theorem dX4_doUntil_33 : decode cX4_doUntil 33 = .ok (.aload_n 1, 1) := by decide +kernel
theorem dX4_doUntil_34 : decode cX4_doUntil 34 = .ok (.getfield 76, 3) := by decide +kernel
theorem dX4_doUntil_37 : decode cX4_doUntil 37 = .ok (.if_icmp .lt 5, 3) := by decide +kernel
theorem dX4_doUntil_40 : decode cX4_doUntil 40 = .ok (.iconst 0, 1) := by decide +kernel
theorem dX4_doUntil_41 : decode cX4_doUntil 41 = .ok (.ireturn, 1) := by decide +kernel
theorem dX4_doUntil_42 : decode cX4_doUntil 42 = .ok (.aload_n 0, 1) := by decide +kernel
theorem dX4_doUntil_43 : decode cX4_doUntil 43 = .ok (.aload_n 1, 1) := by decide +kernel
theorem dX4_doUntil_44 : decode cX4_doUntil 44 = .ok (.getfield 114, 3) := by decide +kernel
theorem dX4_doUntil_47 : decode cX4_doUntil 47 = .ok (.aload_n 2, 1) := by decide +kernel
theorem dX4_doUntil_48 : decode cX4_doUntil 48 = .ok (.iload_n 3, 1) := by decide +kernel
theorem dX4_doUntil_49 : decode cX4_doUntil 49 = .ok (.invokevirtual 34, 3) := by decide +kernel
theorem dX4_doUntil_52 : decode cX4_doUntil 52 = .ok (.istore 4, 2) := by decide +kernel
theorem dX4_doUntil_54 : decode cX4_doUntil 54 = .ok (.iinc 5 1, 3) := by decide +kernel
theorem dX4_doUntil_57 : decode cX4_doUntil 57 = .ok (.goto (-51), 3) := by decide +kernel
theorem dX4_doUntil_60 : decode cX4_doUntil 60 = .ok (.iload 4, 2) := by decide +kernel
theorem dX4_doUntil_62 : decode cX4_doUntil 62 = .ok (.ireturn, 1) := by decide +kernel
theorem dX4_doTry_0 : decode cX4_doTry 0 = .ok (.aload_n 0, 1) := by decide +kernel
theorem dX4_doTry_1 : decode cX4_doTry 1 = .ok (.aload_n 1, 1) := by decide +kernel
theorem dX4_doTry_2 : decode cX4_doTry 2 = .ok (.getfield 114, 3) := by decide +kernel
theorem dX4_doTry_5 : decode cX4_doTry 5 = .ok (.aload_n 2, 1) := by decide +kernel
theorem dX4_doTry_6 : decode cX4_doTry 6 = .ok (.iload_n 3, 1) := by decide +kernel
theorem dX4_doTry_7 : decode cX4_doTry 7 = .ok (.invokevirtual 34, 3) := by decide +kernel
theorem dX4_doTry_10 : decode cX4_doTry 10 = .ok (.istore 4, 2) := by decide +kernel
theorem dX4_doTry_12 : decode cX4_doTry 12 = .ok (.iload 4, 2) := by decide +kernel
theorem dX4_doTry_14 : decode cX4_doTry 14 = .ok (.ifCond .eq 9, 3) := by decide +kernel
theorem dX4_doTry_17 : decode cX4_doTry 17 = .ok (.iload 4, 2) := by decide +kernel
theorem dX4_doTry_19 : decode cX4_doTry 19 = .ok (.iconst (-1), 1) := by decide +kernel
theorem dX4_doTry_20 : decode cX4_doTry 20 = .ok (.if_icmp .ne 6, 3) := by decide +kernel
theorem dX4_doTry_23 : decode cX4_doTry 23 = .ok (.iload 4, 2) := by decide +kernel
theorem dX4_doTry_25 : decode cX4_doTry 25 = .ok (.ireturn, 1) := by decide +kernel
theorem dX4_doTry_26 : decode cX4_doTry 26 = .ok (.aload_n 0, 1) := by decide +kernel
theorem dX4_doTry_27 : decode cX4_doTry 27 = .ok (.aload_n 1, 1) := by decide +kernel
theorem dX4_doTry_28 : decode cX4_doTry 28 = .ok (.getfield 117, 3) := by decide +kernel
theorem dX4_doTry_31 : decode cX4_doTry 31 = .ok (.aload_n 2, 1) := by decide +kernel
theorem dX4_doTry_32 : decode cX4_doTry 32 = .ok (.iload_n 3, 1) := by decide +kernel
theorem dX4_doTry_33 : decode cX4_doTry 33 = .ok (.invokevirtual 34, 3) := by decide +kernel
theorem dX4_doTry_36 : decode cX4_doTry 36 = .ok (.ireturn, 1) := by decide +kernel
theorem dX4_doWithLast_0 : decode cX4_doWithLast 0 = .ok (.aload_n 0, 1) := by decide +kernel
theorem dX4_doWithLast_1 : decode cX4_doWithLast 1 = .ok (.aload_n 1, 1) := by decide +kernel
theorem dX4_doWithLast_2 : decode cX4_doWithLast 2 = .ok (.getfield 114, 3) := by decide +kernel
theorem dX4_doWithLast_5 : decode cX4_doWithLast 5 = .ok (.aload_n 2, 1) := by decide +kernel
theorem dX4_doWithLast_6 : decode cX4_doWithLast 6 = .ok (.iload_n 3, 1) := by decide +kernel
theorem dX4_doWithLast_7 : decode cX4_doWithLast 7 = .ok (.invokevirtual 34, 3) := by decide +kernel
theorem dX4_doWithLast_10 : decode cX4_doWithLast 10 = .ok (.istore 4, 2) := by decide +kernel
theorem dX4_doWithLast_12 : decode cX4_doWithLast 12 = .ok (.iload 4, 2) := by decide +kernel
theorem dX4_doWithLast_14 : decode cX4_doWithLast 14 = .ok (.iconst (-1), 1) := by decide +kernel
theorem dX4_doWithLast_15 : decode cX4_doWithLast 15 = .ok (.if_icmp .ne 5, 3) := by decide +kernel
theorem dX4_doWithLast_18 : decode cX4_doWithLast 18 = .ok (.iconst (-1), 1) := by decide +kernel
theorem dX4_doWithLast_19 : decode cX4_doWithLast 19 = .ok (.ireturn, 1) := by decide +kernel
theorem dX4_doWithLast_20 : decode cX4_doWithLast 20 = .ok (.aload_n 0, 1) := by decide +kernel
theorem dX4_doWithLast_21 : decode cX4_doWithLast 21 = .ok (.aload_n 1, 1) := by decide +kernel
theorem dX4_doWithLast_22 : decode cX4_doWithLast 22 = .ok (.getfield 117, 3) := by decide +kernel
theorem dX4_doWithLast_25 : decode cX4_doWithLast 25 = .ok (.aload_n 2, 1) := by decide +kernel
theorem dX4_doWithLast_26 : decode cX4_doWithLast 26 = .ok (.iload_n 3, 1) := by decide +kernel
theorem dX4_doWithLast_27 : decode cX4_doWithLast 27 = .ok (.invokevirtual 34, 3) := by decide +kernel
theorem dX4_doWithLast_30 : decode cX4_doWithLast 30 = .ok (.istore 5, 2) := by decide +kernel
theorem dX4_doWithLast_32 : decode cX4_doWithLast 32 = .ok (.iload 5, 2) := by decide +kernel
theorem dX4_doWithLast_34 : decode cX4_doWithLast 34 = .ok (.ifCond .ne 8, 3) := by decide +kernel
theorem dX4_doWithLast_37 : decode cX4_doWithLast 37 = .ok (.iload 4, 2) := by decide +kernel
theorem dX4_doWithLast_39 : decode cX4_doWithLast 39 = .ok (.goto 5, 3) := by decide +kernel
theorem dX4_doWithLast_42 : decode cX4_doWithLast 42 = .ok (.iload 5, 2) := by decide +kernel
theorem dX4_doWithLast_44 : decode cX4_doWithLast 44 = .ok (.ireturn, 1) := by decide +kernel
theorem dX4_holds_0 : decode cX4_holds 0 = .ok (.aload_n 0, 1) := by decide +kernel
theorem dX4_holds_1 : decode cX4_holds 1 = .ok (.aload_n 1, 1) := by decide +kernel
theorem dX4_holds_2 : decode cX4_holds 2 = .ok (.aload_n 2, 1) := by decide +kernel
theorem dX4_holds_3 : decode cX4_holds 3 = .ok (.invokevirtual 155, 3) := by decide +kernel
theorem dX4_holds_6 : decode cX4_holds 6 = .ok (.istore_n 3, 1) := by decide +kernel
theorem dX4_holds_7 : decode cX4_holds 7 = .ok (.aload_n 1, 1) := by decide +kernel
theorem dX4_holds_8 : decode cX4_holds 8 = .ok (.getfield 158, 3) := by decide +kernel
theorem dX4_holds_11 : decode cX4_holds 11 = .ok (.ifCond .eq 19, 3) := by decide +kernel
theorem dX4_holds_14 : decode cX4_holds 14 = .ok (.iload_n 3, 1) := by decide +kernel
theorem dX4_holds_15 : decode cX4_holds 15 = .ok (.aload_n 1, 1) := by decide +kernel
theorem dX4_holds_16 : decode cX4_holds 16 = .ok (.getfield 76, 3) := by decide +kernel
theorem dX4_holds_19 : decode cX4_holds 19 = .ok (.if_icmp .ge 7, 3) := by decide +kernel
theorem dX4_holds_22 : decode cX4_holds 22 = .ok (.iconst 1, 1) := by decide +kernel
theorem dX4_holds_23 : decode cX4_holds 23 = .ok (.goto 20, 3) := by decide +kernel
theorem dX4_holds_26 : decode cX4_holds 26 = .ok (.iconst 0, 1) := by decide +kernel
theorem dX4_holds_27 : decode cX4_holds 27 = .ok (.goto 16, 3) := by decide +kernel
theorem dX4_holds_30 : decode cX4_holds 30 = .ok (.iload_n 3, 1) := by decide +kernel
theorem dX4_holds_31 : decode cX4_holds 31 = .ok (.aload_n 1, 1) := by decide +kernel
theorem dX4_holds_32 : decode cX4_holds 32 = .ok (.getfield 76, 3) := by decide +kernel
theorem dX4_holds_35 : decode cX4_holds 35 = .ok (.if_icmp .ne 7, 3) := by decide +kernel
theorem dX4_holds_38 : decode cX4_holds 38 = .ok (.iconst 1, 1) := by decide +kernel
theorem dX4_holds_39 : decode cX4_holds 39 = .ok (.goto 4, 3) := by decide +kernel
theorem dX4_holds_42 : decode cX4_holds 42 = .ok (.iconst 0, 1) := by decide +kernel
theorem dX4_holds_43 : decode cX4_holds 43 = .ok (.ireturn, 1) := by decide +kernel
theorem dX4_lookAt_0 : decode cX4_lookAt 0 = .ok (.aload_n 1, 1) := by decide +kernel
theorem dX4_lookAt_1 : decode cX4_lookAt 1 = .ok (.getfield 162, 3) := by decide +kernel
theorem dX4_lookAt_4 : decode cX4_lookAt 4 = .ok (.tableswitch 72 15 18 #[32, 37, 42, 57], 32) := by decide +kernel
theorem dX4_lookAt_36 : decode cX4_lookAt 36 = .ok (.aload_n 2, 1) := by decide +kernel
theorem dX4_lookAt_37 : decode cX4_lookAt 37 = .ok (.invokevirtual 151, 3) := by decide +kernel
theorem dX4_lookAt_40 : decode cX4_lookAt 40 = .ok (.ireturn, 1) := by decide +kernel
theorem dX4_lookAt_41 : decode cX4_lookAt 41 = .ok (.aload_n 2, 1) := by decide +kernel
theorem dX4_lookAt_42 : decode cX4_lookAt 42 = .ok (.getfield 137, 3) := by decide +kernel
theorem dX4_lookAt_45 : decode cX4_lookAt 45 = .ok (.ireturn, 1) := by decide +kernel
theorem dX4_lookAt_46 : decode cX4_lookAt 46 = .ok (.aload_n 0, 1) := by decide +kernel
theorem dX4_lookAt_47 : decode cX4_lookAt 47 = .ok (.getfield 15, 3) := by decide +kernel
theorem dX4_lookAt_50 : decode cX4_lookAt 50 = .ok (.aload_n 1, 1) := by decide +kernel
theorem dX4_lookAt_51 : decode cX4_lookAt 51 = .ok (.getfield 67, 3) := by decide +kernel
theorem dX4_lookAt_54 : decode cX4_lookAt 54 = .ok (.invokevirtual 70, 3) := by decide +kernel
theorem dX4_lookAt_57 : decode cX4_lookAt 57 = .ok (.getfield 165, 3) := by decide +kernel
theorem dX4_lookAt_60 : decode cX4_lookAt 60 = .ok (.ireturn, 1) := by decide +kernel
theorem dX4_lookAt_61 : decode cX4_lookAt 61 = .ok (.aload_n 0, 1) := by decide +kernel
theorem dX4_lookAt_62 : decode cX4_lookAt 62 = .ok (.getfield 15, 3) := by decide +kernel
theorem dX4_lookAt_65 : decode cX4_lookAt 65 = .ok (.aload_n 1, 1) := by decide +kernel
theorem dX4_lookAt_66 : decode cX4_lookAt 66 = .ok (.getfield 67, 3) := by decide +kernel
theorem dX4_lookAt_69 : decode cX4_lookAt 69 = .ok (.invokevirtual 70, 3) := by decide +kernel
theorem dX4_lookAt_72 : decode cX4_lookAt 72 = .ok (.getfield 168, 3) := by decide +kernel
theorem dX4_lookAt_75 : decode cX4_lookAt 75 = .ok (.ireturn, 1) := by decide +kernel
theorem dX4_lookAt_76 : decode cX4_lookAt 76 = .ok (.aload_n 0, 1) := by decide +kernel
theorem dX4_lookAt_77 : decode cX4_lookAt 77 = .ok (.getfield 15, 3) := by decide +kernel
theorem dX4_lookAt_80 : decode cX4_lookAt 80 = .ok (.getfield 171, 3) := by decide +kernel
theorem dX4_lookAt_83 : decode cX4_lookAt 83 = .ok (.bipush 24, 2) := by decide +kernel
theorem dX4_lookAt_85 : decode cX4_lookAt 85 = .ok (.irem, 1) := by decide +kernel
theorem dX4_lookAt_86 : decode cX4_lookAt 86 = .ok (.ireturn, 1) := by decide +kernel
theorem dX5_init_0 : decode cX5_init 0 = .ok (.aload_n 0, 1) := by decide +kernel
theorem dX5_init_1 : decode cX5_init 1 = .ok (.invokespecial 1, 3) := by decide +kernel
theorem dX5_init_4 : decode cX5_init 4 = .ok (.aload_n 0, 1) := by decide +kernel
theorem dX5_init_5 : decode cX5_init 5 = .ok (.iload_n 1, 1) := by decide +kernel
theorem dX5_init_6 : decode cX5_init 6 = .ok (.putfield 7, 3) := by decide +kernel
theorem dX5_init_9 : decode cX5_init 9 = .ok (.return_, 1) := by decide +kernel
theorem dX6_init_0 : decode cX6_init 0 = .ok (.aload_n 0, 1) := by decide +kernel
theorem dX6_init_1 : decode cX6_init 1 = .ok (.invokespecial 3, 3) := by decide +kernel
theorem dX6_init_4 : decode cX6_init 4 = .ok (.aload_n 0, 1) := by decide +kernel
theorem dX6_init_5 : decode cX6_init 5 = .ok (.sipush 1501, 3) := by decide +kernel
theorem dX6_init_8 : decode cX6_init 8 = .ok (.newarray .int, 2) := by decide +kernel
theorem dX6_init_10 : decode cX6_init 10 = .ok (.putfield 9, 3) := by decide +kernel
theorem dX6_init_13 : decode cX6_init 13 = .ok (.aload_n 0, 1) := by decide +kernel
theorem dX6_init_14 : decode cX6_init 14 = .ok (.sipush 1501, 3) := by decide +kernel
theorem dX6_init_17 : decode cX6_init 17 = .ok (.newarray .int, 2) := by decide +kernel
theorem dX6_init_19 : decode cX6_init 19 = .ok (.putfield 15, 3) := by decide +kernel
theorem dX6_init_22 : decode cX6_init 22 = .ok (.aload_n 0, 1) := by decide +kernel
theorem dX6_init_23 : decode cX6_init 23 = .ok (.sipush 1501, 3) := by decide +kernel
theorem dX6_init_26 : decode cX6_init 26 = .ok (.newarray .int, 2) := by decide +kernel
theorem dX6_init_28 : decode cX6_init 28 = .ok (.putfield 18, 3) := by decide +kernel
theorem dX6_init_31 : decode cX6_init 31 = .ok (.aload_n 0, 1) := by decide +kernel
theorem dX6_init_32 : decode cX6_init 32 = .ok (.aload_n 1, 1) := by decide +kernel
theorem dX6_init_33 : decode cX6_init 33 = .ok (.putfield 21, 3) := by decide +kernel
theorem dX6_init_36 : decode cX6_init 36 = .ok (.return_, 1) := by decide +kernel
theorem dX6_split_0 : decode cX6_split 0 = .ok (.aload_n 0, 1) := by decide +kernel
theorem dX6_split_1 : decode cX6_split 1 = .ok (.iconst 0, 1) := by decide +kernel
theorem dX6_split_2 : decode cX6_split 2 = .ok (.iload_n 1, 1) := by decide +kernel
theorem dX6_split_3 : decode cX6_split 3 = .ok (.aload_n 0, 1) := by decide +kernel
theorem dX6_split_4 : decode cX6_split 4 = .ok (.getfield 21, 3) := by decide +kernel
theorem dX6_split_7 : decode cX6_split 7 = .ok (.arraylength, 1) := by decide +kernel
theorem dX6_split_8 : decode cX6_split 8 = .ok (.invokestatic 25, 3) := by decide +kernel
theorem dX6_split_11 : decode cX6_split 11 = .ok (.invokestatic 31, 3) := by decide +kernel
theorem dX6_split_14 : decode cX6_split 14 = .ok (.putfield 34, 3) := by decide +kernel
theorem dX6_split_17 : decode cX6_split 17 = .ok (.aload_n 0, 1) := by decide +kernel
theorem dX6_split_18 : decode cX6_split 18 = .ok (.iconst 0, 1) := by decide +kernel
theorem dX6_split_19 : decode cX6_split 19 = .ok (.putfield 38, 3) := by decide +kernel
theorem dX6_split_22 : decode cX6_split 22 = .ok (.aload_n 0, 1) := by decide +kernel
theorem dX6_split_23 : decode cX6_split 23 = .ok (.iconst 0, 1) := by decide +kernel
theorem dX6_split_24 : decode cX6_split 24 = .ok (.putfield 41, 3) := by decide +kernel
theorem dX6_split_27 : decode cX6_split 27 = .ok (.iconst 0, 1) := by decide +kernel
theorem dX6_split_28 : decode cX6_split 28 = .ok (.istore_n 2, 1) := by decide +kernel
theorem dX6_split_29 : decode cX6_split 29 = .ok (.iload_n 2, 1) := by decide +kernel
theorem dX6_split_30 : decode cX6_split 30 = .ok (.aload_n 0, 1) := by decide +kernel
theorem dX6_split_31 : decode cX6_split 31 = .ok (.getfield 34, 3) := by decide +kernel
theorem dX6_split_34 : decode cX6_split 34 = .ok (.if_icmp .ge 51, 3) := by decide +kernel
theorem dX6_split_37 : decode cX6_split 37 = .ok (.aload_n 0, 1) := by decide +kernel
theorem dX6_split_38 : decode cX6_split 38 = .ok (.getfield 38, 3) := by decide +kernel
theorem dX6_split_41 : decode cX6_split 41 = .ok (.aload_n 0, 1) := by decide +kernel
theorem dX6_split_42 : decode cX6_split 42 = .ok (.getfield 34, 3) := by decide +kernel
theorem dX6_split_45 : decode cX6_split 45 = .ok (.if_icmp .ge 40, 3) := by decide +kernel
theorem dX6_split_48 : decode cX6_split 48 = .ok (.aload_n 0, 1) := by decide +kernel
theorem dX6_split_49 : decode cX6_split 49 = .ok (.aload_n 0, 1) := by decide +kernel
theorem dX6_split_50 : decode cX6_split 50 = .ok (.getfield 38, 3) := by decide +kernel
theorem dX6_split_53 : decode cX6_split 53 = .ok (.invokevirtual 44, 3) := by decide +kernel
theorem dX6_split_56 : decode cX6_split 56 = .ok (.invokestatic 48, 3) := by decide +kernel
theorem dX6_split_59 : decode cX6_split 59 = .ok (.ifCond .eq 16, 3) := by decide +kernel
theorem dX6_split_62 : decode cX6_split 62 = .ok (.aload_n 0, 1) := by decide +kernel
theorem dX6_split_63 : decode cX6_split 63 = .ok (.dup, 1) := by decide +kernel
theorem dX6_split_64 : decode cX6_split 64 = .ok (.getfield 38, 3) := by decide +kernel
theorem dX6_split_67 : decode cX6_split 67 = .ok (.iconst 1, 1) := by decide +kernel
theorem dX6_split_68 : decode cX6_split 68 = .ok (.iadd, 1) := by decide +kernel
theorem dX6_split_69 : decode cX6_split 69 = .ok (.putfield 38, 3) := by decide +kernel
theorem dX6_split_72 : decode cX6_split 72 = .ok (.goto 7, 3) := by decide +kernel
theorem dX6_split_75 : decode cX6_split 75 = .ok (.aload_n 0, 1) := by decide +kernel
theorem dX6_split_76 : decode cX6_split 76 = .ok (.invokevirtual 52, 3) := by decide +kernel
theorem dX6_split_79 : decode cX6_split 79 = .ok (.iinc 2 1, 3) := by decide +kernel
theorem dX6_split_82 : decode cX6_split 82 = .ok (.goto (-53), 3) := by decide +kernel
theorem dX6_split_85 : decode cX6_split 85 = .ok (.aload_n 0, 1) := by decide +kernel
theorem dX6_split_86 : decode cX6_split 86 = .ok (.iconst 0, 1) := by decide +kernel
theorem dX6_split_87 : decode cX6_split 87 = .ok (.aload_n 0, 1) := by decide +kernel
theorem dX6_split_88 : decode cX6_split 88 = .ok (.getfield 34, 3) := by decide +kernel
theorem dX6_split_91 : decode cX6_split 91 = .ok (.iconst 0, 1) := by decide +kernel
theorem dX6_split_92 : decode cX6_split 92 = .ok (.invokevirtual 55, 3) := by decide +kernel
theorem dX6_split_95 : decode cX6_split 95 = .ok (.return_, 1) := by decide +kernel
theorem dX6_addToken_0 : decode cX6_addToken 0 = .ok (.aload_n 0, 1) := by decide +kernel
theorem dX6_addToken_1 : decode cX6_addToken 1 = .ok (.aload_n 0, 1) := by decide +kernel
theorem dX6_addToken_2 : decode cX6_addToken 2 = .ok (.getfield 38, 3) := by decide +kernel
theorem dX6_addToken_5 : decode cX6_addToken 5 = .ok (.invokevirtual 44, 3) := by decide +kernel
theorem dX6_addToken_8 : decode cX6_addToken 8 = .ok (.istore_n 1, 1) := by decide +kernel
theorem dX6_addToken_9 : decode cX6_addToken 9 = .ok (.iload_n 1, 1) := by decide +kernel
theorem dX6_addToken_10 : decode cX6_addToken 10 = .ok (.invokestatic 59, 3) := by decide +kernel
theorem dX6_addToken_13 : decode cX6_addToken 13 = .ok (.ifCond .eq 10, 3) := by decide +kernel
theorem dX6_addToken_16 : decode cX6_addToken 16 = .ok (.aload_n 0, 1) := by decide +kernel
theorem dX6_addToken_17 : decode cX6_addToken 17 = .ok (.invokevirtual 62, 3) := by decide +kernel
theorem dX6_addToken_20 : decode cX6_addToken 20 = .ok (.goto 49, 3) := by decide +kernel
theorem dX6_addToken_23 : decode cX6_addToken 23 = .ok (.iload_n 1, 1) := by decide +kernel
theorem dX6_addToken_24 : decode cX6_addToken 24 = .ok (.invokestatic 65, 3) := by decide +kernel
theorem dX6_addToken_27 : decode cX6_addToken 27 = .ok (.ifCond .eq 10, 3) := by decide +kernel
theorem dX6_addToken_30 : decode cX6_addToken 30 = .ok (.aload_n 0, 1) := by decide +kernel
theorem dX6_addToken_31 : decode cX6_addToken 31 = .ok (.invokevirtual 68, 3) := by decide +kernel
theorem dX6_addToken_34 : decode cX6_addToken 34 = .ok (.goto 35, 3) := by decide +kernel
theorem dX6_addToken_37 : decode cX6_addToken 37 = .ok (.aload_n 0, 1) := by decide +kernel
theorem dX6_addToken_38 : decode cX6_addToken 38 = .ok (.iload_n 1, 1) := by decide +kernel
theorem dX6_addToken_39 : decode cX6_addToken 39 = .ok (.invokestatic 71, 3) := by decide +kernel
theorem dX6_addToken_42 : decode cX6_addToken 42 = .ok (.ifCond .eq 7, 3) := by decide +kernel
theorem dX6_addToken_45 : decode cX6_addToken 45 = .ok (.iload_n 1, 1) := by decide +kernel
theorem dX6_addToken_46 : decode cX6_addToken 46 = .ok (.goto 5, 3) := by decide +kernel
theorem dX6_addToken_49 : decode cX6_addToken 49 = .ok (.bipush (-3), 2) := by decide +kernel
theorem dX6_addToken_51 : decode cX6_addToken 51 = .ok (.aload_n 0, 1) := by decide +kernel
theorem dX6_addToken_52 : decode cX6_addToken 52 = .ok (.getfield 38, 3) := by decide +kernel
theorem dX6_addToken_55 : decode cX6_addToken 55 = .ok (.iconst 0, 1) := by decide +kernel
theorem dX6_addToken_56 : decode cX6_addToken 56 = .ok (.invokevirtual 55, 3) := by decide +kernel
theorem dX6_addToken_59 : decode cX6_addToken 59 = .ok (.aload_n 0, 1) := by decide +kernel
theorem dX6_addToken_60 : decode cX6_addToken 60 = .ok (.dup, 1) := by decide +kernel
theorem dX6_addToken_61 : decode cX6_addToken 61 = .ok (.getfield 38, 3) := by decide +kernel
theorem dX6_addToken_64 : decode cX6_addToken 64 = .ok (.iconst 1, 1) := by decide +kernel
theorem dX6_addToken_65 : decode cX6_addToken 65 = .ok (.iadd, 1) := by decide +kernel
theorem dX6_addToken_66 : decode cX6_addToken 66 = .ok (.putfield 38, 3) := by decide +kernel
theorem dX6_addToken_69 : decode cX6_addToken 69 = .ok (.return_, 1) := by decide +kernel
theorem dX6_addLetters_0 : decode cX6_addLetters 0 = .ok (.aload_n 0, 1) := by decide +kernel
theorem dX6_addLetters_1 : decode cX6_addLetters 1 = .ok (.getfield 38, 3) := by decide +kernel
theorem dX6_addLetters_4 : decode cX6_addLetters 4 = .ok (.istore_n 1, 1) := by decide +kernel
theorem dX6_addLetters_5 : decode cX6_addLetters 5 = .ok (.aload_n 0, 1) := by decide +kernel
theorem dX6_addLetters_6 : decode cX6_addLetters 6 = .ok (.getfield 38, 3) := by decide +kernel
theorem dX6_addLetters_9 : decode cX6_addLetters 9 = .ok (.aload_n 0, 1) := by decide +kernel
theorem dX6_addLetters_10 : decode cX6_addLetters 10 = .ok (.getfield 34, 3) := by decide +kernel
theorem dX6_addLetters_13 : decode cX6_addLetters 13 = .ok (.if_icmp .ge 30, 3) := by decide +kernel
theorem dX6_addLetters_16 : decode cX6_addLetters 16 = .ok (.aload_n 0, 1) := by decide +kernel
theorem dX6_addLetters_17 : decode cX6_addLetters 17 = .ok (.aload_n 0, 1) := by decide +kernel
theorem dX6_addLetters_18 : decode cX6_addLetters 18 = .ok (.getfield 38, 3) := by decide +kernel
theorem dX6_addLetters_21 : decode cX6_addLetters 21 = .ok (.invokevirtual 44, 3) := by decide +kernel
theorem dX6_addLetters_24 : decode cX6_addLetters 24 = .ok (.invokestatic 59, 3) := by decide +kernel
theorem dX6_addLetters_27 : decode cX6_addLetters 27 = .ok (.ifCond .eq 16, 3) := by decide +kernel
theorem dX6_addLetters_30 : decode cX6_addLetters 30 = .ok (.aload_n 0, 1) := by decide +kernel
theorem dX6_addLetters_31 : decode cX6_addLetters 31 = .ok (.dup, 1) := by decide +kernel
theorem dX6_addLetters_32 : decode cX6_addLetters 32 = .ok (.getfield 38, 3) := by decide +kernel
theorem dX6_addLetters_35 : decode cX6_addLetters 35 = .ok (.iconst 1, 1) := by decide +kernel
theorem dX6_addLetters_36 : decode cX6_addLetters 36 = .ok (.iadd, 1) := by decide +kernel
theorem dX6_addLetters_37 : decode cX6_addLetters 37 = .ok (.putfield 38, 3) := by decide +kernel
theorem dX6_addLetters_40 : decode cX6_addLetters 40 = .ok (.goto (-35), 3) := by decide +kernel
theorem dX6_addLetters_43 : decode cX6_addLetters 43 = .ok (.aload_n 0, 1) := by decide +kernel
theorem dX6_addLetters_44 : decode cX6_addLetters 44 = .ok (.aload_n 0, 1) := by decide +kernel
theorem dX6_addLetters_45 : decode cX6_addLetters 45 = .ok (.iload_n 1, 1) := by decide +kernel
theorem dX6_addLetters_46 : decode cX6_addLetters 46 = .ok (.invokevirtual 74, 3) := by decide +kernel
theorem dX6_addLetters_49 : decode cX6_addLetters 49 = .ok (.iload_n 1, 1) := by decide +kernel
theorem dX6_addLetters_50 : decode cX6_addLetters 50 = .ok (.iconst 0, 1) := by decide +kernel
theorem dX6_addLetters_51 : decode cX6_addLetters 51 = .ok (.invokevirtual 55, 3) := by decide +kernel
theorem dX6_addLetters_54 : decode cX6_addLetters 54 = .ok (.return_, 1) := by decide +kernel
theorem dX6_addDigits_0 : decode cX6_addDigits 0 = .ok (.aload_n 0, 1) := by decide +kernel
theorem dX6_addDigits_1 : decode cX6_addDigits 1 = .ok (.getfield 38, 3) := by decide +kernel
theorem dX6_addDigits_4 : decode cX6_addDigits 4 = .ok (.istore_n 1, 1) := by decide +kernel
theorem dX6_addDigits_5 : decode cX6_addDigits 5 = .ok (.iconst 0, 1) := by decide +kernel
theorem dX6_addDigits_6 : decode cX6_addDigits 6 = .ok (.istore_n 2, 1) := by decide +kernel
theorem dX6_addDigits_7 : decode cX6_addDigits 7 = .ok (.aload_n 0, 1) := by decide +kernel
theorem dX6_addDigits_8 : decode cX6_addDigits 8 = .ok (.getfield 38, 3) := by decide +kernel
theorem dX6_addDigits_11 : decode cX6_addDigits 11 = .ok (.aload_n 0, 1) := by decide +kernel
theorem dX6_addDigits_12 : decode cX6_addDigits 12 = .ok (.getfield 34, 3) := by decide +kernel
theorem dX6_addDigits_15 : decode cX6_addDigits 15 = .ok (.if_icmp .ge 57, 3) := by decide +kernel
theorem dX6_addDigits_18 : decode cX6_addDigits 18 = .ok (.aload_n 0, 1) := by decide +kernel
theorem dX6_addDigits_19 : decode cX6_addDigits 19 = .ok (.aload_n 0, 1) := by decide +kernel
theorem dX6_addDigits_20 : decode cX6_addDigits 20 = .ok (.getfield 38, 3) := by decide +kernel
theorem dX6_addDigits_23 : decode cX6_addDigits 23 = .ok (.invokevirtual 44, 3) := by decide +kernel
theorem dX6_addDigits_26 : decode cX6_addDigits 26 = .ok (.invokestatic 65, 3) := by decide +kernel
theorem dX6_addDigits_29 : decode cX6_addDigits 29 = .ok (.ifCond .eq 43, 3) := by decide +kernel
theorem dX6_addDigits_32 : decode cX6_addDigits 32 = .ok (.aload_n 0, 1) := by decide +kernel
theorem dX6_addDigits_33 : decode cX6_addDigits 33 = .ok (.getfield 38, 3) := by decide +kernel
theorem dX6_addDigits_36 : decode cX6_addDigits 36 = .ok (.iload_n 1, 1) := by decide +kernel
theorem dX6_addDigits_37 : decode cX6_addDigits 37 = .ok (.isub, 1) := by decide +kernel
theorem dX6_addDigits_38 : decode cX6_addDigits 38 = .ok (.iconst 4, 1) := by decide +kernel
theorem dX6_addDigits_39 : decode cX6_addDigits 39 = .ok (.if_icmp .ge 20, 3) := by decide +kernel
theorem dX6_addDigits_42 : decode cX6_addDigits 42 = .ok (.iload_n 2, 1) := by decide +kernel
theorem dX6_addDigits_43 : decode cX6_addDigits 43 = .ok (.bipush 10, 2) := by decide +kernel
theorem dX6_addDigits_45 : decode cX6_addDigits 45 = .ok (.imul, 1) := by decide +kernel
theorem dX6_addDigits_46 : decode cX6_addDigits 46 = .ok (.aload_n 0, 1) := by decide +kernel
theorem dX6_addDigits_47 : decode cX6_addDigits 47 = .ok (.aload_n 0, 1) := by decide +kernel
theorem dX6_addDigits_48 : decode cX6_addDigits 48 = .ok (.getfield 38, 3) := by decide +kernel
theorem dX6_addDigits_51 : decode cX6_addDigits 51 = .ok (.invokevirtual 44, 3) := by decide +kernel
theorem dX6_addDigits_54 : decode cX6_addDigits 54 = .ok (.iadd, 1) := by decide +kernel
theorem dX6_addDigits_55 : decode cX6_addDigits 55 = .ok (.bipush 48, 2) := by decide +kernel
theorem dX6_addDigits_57 : decode cX6_addDigits 57 = .ok (.isub, 1) := by decide +kernel
theorem dX6_addDigits_58 : decode cX6_addDigits 58 = .ok (.istore_n 2, 1) := by decide +kernel
theorem dX6_addDigits_59 : decode cX6_addDigits 59 = .ok (.aload_n 0, 1) := by decide +kernel
theorem dX6_addDigits_60 : decode cX6_addDigits 60 = .ok (.dup, 1) := by decide +kernel
theorem dX6_addDigits_61 : decode cX6_addDigits 61 = .ok (.getfield 38, 3) := by decide +kernel
theorem dX6_addDigits_64 : decode cX6_addDigits 64 = .ok (.iconst 1, 1) := by decide +kernel
theorem dX6_addDigits_65 : decode cX6_addDigits 65 = .ok (.iadd, 1) := by decide +kernel
theorem dX6_addDigits_66 : decode cX6_addDigits 66 = .ok (.putfield 38, 3) := by decide +kernel
theorem dX6_addDigits_69 : decode cX6_addDigits 69 = .ok (.goto (-62), 3) := by decide +kernel
theorem dX6_addDigits_72 : decode cX6_addDigits 72 = .ok (.aload_n 0, 1) := by decide +kernel
theorem dX6_addDigits_73 : decode cX6_addDigits 73 = .ok (.aload_n 0, 1) := by decide +kernel
theorem dX6_addDigits_74 : decode cX6_addDigits 74 = .ok (.getfield 38, 3) := by decide +kernel
theorem dX6_addDigits_77 : decode cX6_addDigits 77 = .ok (.iload_n 1, 1) := by decide +kernel
theorem dX6_addDigits_78 : decode cX6_addDigits 78 = .ok (.isub, 1) := by decide +kernel
theorem dX6_addDigits_79 : decode cX6_addDigits 79 = .ok (.iconst 4, 1) := by decide +kernel
theorem dX6_addDigits_80 : decode cX6_addDigits 80 = .ok (.if_icmp .le 8, 3) := by decide +kernel
theorem dX6_addDigits_83 : decode cX6_addDigits 83 = .ok (.bipush (-2), 2) := by decide +kernel
theorem dX6_addDigits_85 : decode cX6_addDigits 85 = .ok (.goto 4, 3) := by decide +kernel
theorem dX6_addDigits_88 : decode cX6_addDigits 88 = .ok (.iconst (-1), 1) := by decide +kernel
theorem dX6_addDigits_89 : decode cX6_addDigits 89 = .ok (.iload_n 1, 1) := by decide +kernel
theorem dX6_addDigits_90 : decode cX6_addDigits 90 = .ok (.iload_n 2, 1) := by decide +kernel
theorem dX6_addDigits_91 : decode cX6_addDigits 91 = .ok (.invokevirtual 55, 3) := by decide +kernel
theorem dX6_addDigits_94 : decode cX6_addDigits 94 = .ok (.return_, 1) := by decide +kernel
theorem dX6_keep_0 : decode cX6_keep 0 = .ok (.aload_n 0, 1) := by decide +kernel
theorem dX6_keep_1 : decode cX6_keep 1 = .ok (.getfield 41, 3) := by decide +kernel
theorem dX6_keep_4 : decode cX6_keep 4 = .ok (.ifCond .lt 55, 3) := by decide +kernel
theorem dX6_keep_7 : decode cX6_keep 7 = .ok (.aload_n 0, 1) := by decide +kernel
theorem dX6_keep_8 : decode cX6_keep 8 = .ok (.getfield 41, 3) := by decide +kernel
theorem dX6_keep_11 : decode cX6_keep 11 = .ok (.aload_n 0, 1) := by decide +kernel
theorem dX6_keep_12 : decode cX6_keep 12 = .ok (.getfield 9, 3) := by decide +kernel
theorem dX6_keep_15 : decode cX6_keep 15 = .ok (.arraylength, 1) := by decide +kernel
theorem dX6_keep_16 : decode cX6_keep 16 = .ok (.if_icmp .ge 43, 3) := by decide +kernel
theorem dX6_keep_19 : decode cX6_keep 19 = .ok (.aload_n 0, 1) := by decide +kernel
theorem dX6_keep_20 : decode cX6_keep 20 = .ok (.getfield 9, 3) := by decide +kernel
theorem dX6_keep_23 : decode cX6_keep 23 = .ok (.aload_n 0, 1) := by decide +kernel
theorem dX6_keep_24 : decode cX6_keep 24 = .ok (.getfield 41, 3) := by decide +kernel
theorem dX6_keep_27 : decode cX6_keep 27 = .ok (.iload_n 1, 1) := by decide +kernel
theorem dX6_keep_28 : decode cX6_keep 28 = .ok (.iastore, 1) := by decide +kernel
theorem dX6_keep_29 : decode cX6_keep 29 = .ok (.aload_n 0, 1) := by decide +kernel
theorem dX6_keep_30 : decode cX6_keep 30 = .ok (.getfield 15, 3) := by decide +kernel
theorem dX6_keep_33 : decode cX6_keep 33 = .ok (.aload_n 0, 1) := by decide +kernel
theorem dX6_keep_34 : decode cX6_keep 34 = .ok (.getfield 41, 3) := by decide +kernel
theorem dX6_keep_37 : decode cX6_keep 37 = .ok (.iload_n 2, 1) := by decide +kernel
theorem dX6_keep_38 : decode cX6_keep 38 = .ok (.iastore, 1) := by decide +kernel
theorem dX6_keep_39 : decode cX6_keep 39 = .ok (.aload_n 0, 1) := by decide +kernel
theorem dX6_keep_40 : decode cX6_keep 40 = .ok (.getfield 18, 3) := by decide +kernel
theorem dX6_keep_43 : decode cX6_keep 43 = .ok (.aload_n 0, 1) := by decide +kernel
theorem dX6_keep_44 : decode cX6_keep 44 = .ok (.getfield 41, 3) := by decide +kernel
theorem dX6_keep_47 : decode cX6_keep 47 = .ok (.iload_n 3, 1) := by decide +kernel
theorem dX6_keep_48 : decode cX6_keep 48 = .ok (.iastore, 1) := by decide +kernel
theorem dX6_keep_49 : decode cX6_keep 49 = .ok (.aload_n 0, 1) := by decide +kernel
theorem dX6_keep_50 : decode cX6_keep 50 = .ok (.dup, 1) := by decide +kernel
theorem dX6_keep_51 : decode cX6_keep 51 = .ok (.getfield 41, 3) := by decide +kernel
theorem dX6_keep_54 : decode cX6_keep 54 = .ok (.iconst 1, 1) := by decide +kernel
theorem dX6_keep_55 : decode cX6_keep 55 = .ok (.iadd, 1) := by decide +kernel
theorem dX6_keep_56 : decode cX6_keep 56 = .ok (.putfield 41, 3) := by decide +kernel
theorem dX6_keep_59 : decode cX6_keep 59 = .ok (.return_, 1) := by decide +kernel
theorem dX6_wordNumber_0 : decode cX6_wordNumber 0 = .ok (.iconst 1, 1) := by decide +kernel
theorem dX6_wordNumber_1 : decode cX6_wordNumber 1 = .ok (.istore_n 2, 1) := by decide +kernel
theorem dX6_wordNumber_2 : decode cX6_wordNumber 2 = .ok (.iconst 0, 1) := by decide +kernel
theorem dX6_wordNumber_3 : decode cX6_wordNumber 3 = .ok (.istore_n 3, 1) := by decide +kernel
theorem dX6_wordNumber_4 : decode cX6_wordNumber 4 = .ok (.iconst 0, 1) := by decide +kernel
theorem dX6_wordNumber_5 : decode cX6_wordNumber 5 = .ok (.istore 4, 2) := by decide +kernel
theorem dX6_wordNumber_7 : decode cX6_wordNumber 7 = .ok (.iload 4, 2) := by decide +kernel
theorem dX6_wordNumber_9 : decode cX6_wordNumber 9 = .ok (.ldc 77, 2) := by decide +kernel
theorem dX6_wordNumber_11 : decode cX6_wordNumber 11 = .ok (.invokevirtual 79, 3) := by decide +kernel
theorem dX6_wordNumber_14 : decode cX6_wordNumber 14 = .ok (.if_icmp .ge 42, 3) := by decide +kernel
theorem dX6_wordNumber_17 : decode cX6_wordNumber 17 = .ok (.ldc 77, 2) := by decide +kernel
theorem dX6_wordNumber_19 : decode cX6_wordNumber 19 = .ok (.iload 4, 2) := by decide +kernel
theorem dX6_wordNumber_21 : decode cX6_wordNumber 21 = .ok (.invokevirtual 84, 3) := by decide +kernel
theorem dX6_wordNumber_24 : decode cX6_wordNumber 24 = .ok (.bipush 32, 2) := by decide +kernel
theorem dX6_wordNumber_26 : decode cX6_wordNumber 26 = .ok (.if_icmp .ne 24, 3) := by decide +kernel
theorem dX6_wordNumber_29 : decode cX6_wordNumber 29 = .ok (.aload_n 0, 1) := by decide +kernel
theorem dX6_wordNumber_30 : decode cX6_wordNumber 30 = .ok (.iload_n 3, 1) := by decide +kernel
theorem dX6_wordNumber_31 : decode cX6_wordNumber 31 = .ok (.iload 4, 2) := by decide +kernel
theorem dX6_wordNumber_33 : decode cX6_wordNumber 33 = .ok (.iload_n 1, 1) := by decide +kernel
theorem dX6_wordNumber_34 : decode cX6_wordNumber 34 = .ok (.invokevirtual 88, 3) := by decide +kernel
theorem dX6_wordNumber_37 : decode cX6_wordNumber 37 = .ok (.ifCond .eq 5, 3) := by decide +kernel
theorem dX6_wordNumber_40 : decode cX6_wordNumber 40 = .ok (.iload_n 2, 1) := by decide +kernel
theorem dX6_wordNumber_41 : decode cX6_wordNumber 41 = .ok (.ireturn, 1) := by decide +kernel
theorem dX6_wordNumber_42 : decode cX6_wordNumber 42 = .ok (.iinc 2 1, 3) := by decide +kernel
theorem dX6_wordNumber_45 : decode cX6_wordNumber 45 = .ok (.iload 4, 2) := by decide +kernel
theorem dX6_wordNumber_47 : decode cX6_wordNumber 47 = .ok (.iconst 1, 1) := by decide +kernel
theorem dX6_wordNumber_48 : decode cX6_wordNumber 48 = .ok (.iadd, 1) := by decide +kernel
theorem dX6_wordNumber_49 : decode cX6_wordNumber 49 = .ok (.istore_n 3, 1) := by decide +kernel
theorem dX6_wordNumber_50 : decode cX6_wordNumber 50 = .ok (.iinc 4 1, 3) := by decide +kernel
theorem dX6_wordNumber_53 : decode cX6_wordNumber 53 = .ok (.goto (-46), 3) := by decide +kernel
theorem dX6_wordNumber_56 : decode cX6_wordNumber 56 = .ok (.bipush (-3), 2) := by decide +kernel
theorem dX6_wordNumber_58 : decode cX6_wordNumber 58 = .ok (.ireturn, 1) := by decide +kernel
theorem dX6_isWord_0 : decode cX6_isWord 0 = .ok (.iload_n 2, 1) := by decide +kernel
theorem dX6_isWord_1 : decode cX6_isWord 1 = .ok (.iload_n 1, 1) := by decide +kernel
theorem dX6_isWord_2 : decode cX6_isWord 2 = .ok (.isub, 1) := by decide +kernel
theorem dX6_isWord_3 : decode cX6_isWord 3 = .ok (.aload_n 0, 1) := by decide +kernel
theorem dX6_isWord_4 : decode cX6_isWord 4 = .ok (.getfield 38, 3) := by decide +kernel
theorem dX6_isWord_7 : decode cX6_isWord 7 = .ok (.iload_n 3, 1) := by decide +kernel
theorem dX6_isWord_8 : decode cX6_isWord 8 = .ok (.isub, 1) := by decide +kernel
theorem dX6_isWord_9 : decode cX6_isWord 9 = .ok (.if_icmp .eq 5, 3) := by decide +kernel
theorem dX6_isWord_12 : decode cX6_isWord 12 = .ok (.iconst 0, 1) := by decide +kernel
theorem dX6_isWord_13 : decode cX6_isWord 13 = .ok (.ireturn, 1) := by decide +kernel
theorem dX6_isWord_14 : decode cX6_isWord 14 = .ok (.iload_n 1, 1) := by decide +kernel
theorem dX6_isWord_15 : decode cX6_isWord 15 = .ok (.istore 4, 2) := by decide +kernel
theorem dX6_isWord_17 : decode cX6_isWord 17 = .ok (.iload 4, 2) := by decide +kernel
theorem dX6_isWord_19 : decode cX6_isWord 19 = .ok (.iload_n 2, 1) := by decide +kernel
theorem dX6_isWord_20 : decode cX6_isWord 20 = .ok (.if_icmp .ge 31, 3) := by decide +kernel
theorem dX6_isWord_23 : decode cX6_isWord 23 = .ok (.ldc 77, 2) := by decide +kernel
theorem dX6_isWord_25 : decode cX6_isWord 25 = .ok (.iload 4, 2) := by decide +kernel
theorem dX6_isWord_27 : decode cX6_isWord 27 = .ok (.invokevirtual 84, 3) := by decide +kernel
theorem dX6_isWord_30 : decode cX6_isWord 30 = .ok (.aload_n 0, 1) := by decide +kernel
theorem dX6_isWord_31 : decode cX6_isWord 31 = .ok (.iload_n 3, 1) := by decide +kernel
theorem dX6_isWord_32 : decode cX6_isWord 32 = .ok (.iload 4, 2) := by decide +kernel
theorem dX6_isWord_34 : decode cX6_isWord 34 = .ok (.iadd, 1) := by decide +kernel
theorem dX6_isWord_35 : decode cX6_isWord 35 = .ok (.iload_n 1, 1) := by decide +kernel
theorem dX6_isWord_36 : decode cX6_isWord 36 = .ok (.isub, 1) := by decide +kernel
theorem dX6_isWord_37 : decode cX6_isWord 37 = .ok (.invokevirtual 44, 3) := by decide +kernel
theorem dX6_isWord_40 : decode cX6_isWord 40 = .ok (.if_icmp .eq 5, 3) := by decide +kernel
theorem dX6_isWord_43 : decode cX6_isWord 43 = .ok (.iconst 0, 1) := by decide +kernel
theorem dX6_isWord_44 : decode cX6_isWord 44 = .ok (.ireturn, 1) := by decide +kernel
theorem dX6_isWord_45 : decode cX6_isWord 45 = .ok (.iinc 4 1, 3) := by decide +kernel
theorem dX6_isWord_48 : decode cX6_isWord 48 = .ok (.goto (-31), 3) := by decide +kernel
theorem dX6_isWord_51 : decode cX6_isWord 51 = .ok (.iconst 1, 1) := by decide +kernel
theorem dX6_isWord_52 : decode cX6_isWord 52 = .ok (.ireturn, 1) := by decide +kernel
theorem dX6_byteAt_0 : decode cX6_byteAt 0 = .ok (.iload_n 1, 1) := by decide +kernel
theorem dX6_byteAt_1 : decode cX6_byteAt 1 = .ok (.ifCond .lt 20, 3) := by decide +kernel
theorem dX6_byteAt_4 : decode cX6_byteAt 4 = .ok (.iload_n 1, 1) := by decide +kernel
theorem dX6_byteAt_5 : decode cX6_byteAt 5 = .ok (.aload_n 0, 1) := by decide +kernel
theorem dX6_byteAt_6 : decode cX6_byteAt 6 = .ok (.getfield 34, 3) := by decide +kernel
theorem dX6_byteAt_9 : decode cX6_byteAt 9 = .ok (.if_icmp .ge 12, 3) := by decide +kernel
theorem dX6_byteAt_12 : decode cX6_byteAt 12 = .ok (.iload_n 1, 1) := by decide +kernel
theorem dX6_byteAt_13 : decode cX6_byteAt 13 = .ok (.aload_n 0, 1) := by decide +kernel
theorem dX6_byteAt_14 : decode cX6_byteAt 14 = .ok (.getfield 21, 3) := by decide +kernel
theorem dX6_byteAt_17 : decode cX6_byteAt 17 = .ok (.arraylength, 1) := by decide +kernel
theorem dX6_byteAt_18 : decode cX6_byteAt 18 = .ok (.if_icmp .lt 9, 3) := by decide +kernel
theorem dX6_byteAt_21 : decode cX6_byteAt 21 = .ok (.sipush 256, 3) := by decide +kernel
theorem dX6_byteAt_24 : decode cX6_byteAt 24 = .ok (.goto 9, 3) := by decide +kernel
theorem dX6_byteAt_27 : decode cX6_byteAt 27 = .ok (.aload_n 0, 1) := by decide +kernel
theorem dX6_byteAt_28 : decode cX6_byteAt 28 = .ok (.getfield 21, 3) := by decide +kernel
theorem dX6_byteAt_31 : decode cX6_byteAt 31 = .ok (.iload_n 1, 1) := by decide +kernel
theorem dX6_byteAt_32 : decode cX6_byteAt 32 = .ok (.baload, 1) := by decide +kernel
theorem dX6_byteAt_33 : decode cX6_byteAt 33 = .ok (.ireturn, 1) := by decide +kernel
theorem dX6_isBlank_0 : decode cX6_isBlank 0 = .ok (.iload_n 0, 1) := by decide +kernel
theorem dX6_isBlank_1 : decode cX6_isBlank 1 = .ok (.bipush 32, 2) := by decide +kernel
theorem dX6_isBlank_3 : decode cX6_isBlank 3 = .ok (.if_icmp .eq 9, 3) := by decide +kernel
theorem dX6_isBlank_6 : decode cX6_isBlank 6 = .ok (.iload_n 0, 1) := by decide +kernel
theorem dX6_isBlank_7 : decode cX6_isBlank 7 = .ok (.bipush 10, 2) := by decide +kernel
theorem dX6_isBlank_9 : decode cX6_isBlank 9 = .ok (.if_icmp .ne 7, 3) := by decide +kernel
theorem dX6_isBlank_12 : decode cX6_isBlank 12 = .ok (.iconst 1, 1) := by decide +kernel
theorem dX6_isBlank_13 : decode cX6_isBlank 13 = .ok (.goto 4, 3) := by decide +kernel
theorem dX6_isBlank_16 : decode cX6_isBlank 16 = .ok (.iconst 0, 1) := by decide +kernel
theorem dX6_isBlank_17 : decode cX6_isBlank 17 = .ok (.ireturn, 1) := by decide +kernel
theorem dX6_isLetter_0 : decode cX6_isLetter 0 = .ok (.iload_n 0, 1) := by decide +kernel
theorem dX6_isLetter_1 : decode cX6_isLetter 1 = .ok (.bipush 97, 2) := by decide +kernel
theorem dX6_isLetter_3 : decode cX6_isLetter 3 = .ok (.if_icmp .lt 13, 3) := by decide +kernel
theorem dX6_isLetter_6 : decode cX6_isLetter 6 = .ok (.iload_n 0, 1) := by decide +kernel
theorem dX6_isLetter_7 : decode cX6_isLetter 7 = .ok (.bipush 122, 2) := by decide +kernel
theorem dX6_isLetter_9 : decode cX6_isLetter 9 = .ok (.if_icmp .gt 7, 3) := by decide +kernel
theorem dX6_isLetter_12 : decode cX6_isLetter 12 = .ok (.iconst 1, 1) := by decide +kernel
theorem dX6_isLetter_13 : decode cX6_isLetter 13 = .ok (.goto 4, 3) := by decide +kernel
theorem dX6_isLetter_16 : decode cX6_isLetter 16 = .ok (.iconst 0, 1) := by decide +kernel
theorem dX6_isLetter_17 : decode cX6_isLetter 17 = .ok (.ireturn, 1) := by decide +kernel
theorem dX6_isDigit_0 : decode cX6_isDigit 0 = .ok (.iload_n 0, 1) := by decide +kernel
theorem dX6_isDigit_1 : decode cX6_isDigit 1 = .ok (.bipush 48, 2) := by decide +kernel
theorem dX6_isDigit_3 : decode cX6_isDigit 3 = .ok (.if_icmp .lt 13, 3) := by decide +kernel
theorem dX6_isDigit_6 : decode cX6_isDigit 6 = .ok (.iload_n 0, 1) := by decide +kernel
theorem dX6_isDigit_7 : decode cX6_isDigit 7 = .ok (.bipush 57, 2) := by decide +kernel
theorem dX6_isDigit_9 : decode cX6_isDigit 9 = .ok (.if_icmp .gt 7, 3) := by decide +kernel
theorem dX6_isDigit_12 : decode cX6_isDigit 12 = .ok (.iconst 1, 1) := by decide +kernel
theorem dX6_isDigit_13 : decode cX6_isDigit 13 = .ok (.goto 4, 3) := by decide +kernel
theorem dX6_isDigit_16 : decode cX6_isDigit 16 = .ok (.iconst 0, 1) := by decide +kernel
theorem dX6_isDigit_17 : decode cX6_isDigit 17 = .ok (.ireturn, 1) := by decide +kernel
theorem dX6_isSign_0 : decode cX6_isSign 0 = .ok (.iload_n 0, 1) := by decide +kernel
theorem dX6_isSign_1 : decode cX6_isSign 1 = .ok (.bipush 59, 2) := by decide +kernel
theorem dX6_isSign_3 : decode cX6_isSign 3 = .ok (.if_icmp .eq 27, 3) := by decide +kernel
theorem dX6_isSign_6 : decode cX6_isSign 6 = .ok (.iload_n 0, 1) := by decide +kernel
theorem dX6_isSign_7 : decode cX6_isSign 7 = .ok (.bipush 123, 2) := by decide +kernel
theorem dX6_isSign_9 : decode cX6_isSign 9 = .ok (.if_icmp .eq 21, 3) := by decide +kernel
theorem dX6_isSign_12 : decode cX6_isSign 12 = .ok (.iload_n 0, 1) := by decide +kernel
theorem dX6_isSign_13 : decode cX6_isSign 13 = .ok (.bipush 125, 2) := by decide +kernel
theorem dX6_isSign_15 : decode cX6_isSign 15 = .ok (.if_icmp .eq 15, 3) := by decide +kernel
theorem dX6_isSign_18 : decode cX6_isSign 18 = .ok (.iload_n 0, 1) := by decide +kernel
theorem dX6_isSign_19 : decode cX6_isSign 19 = .ok (.bipush 60, 2) := by decide +kernel
theorem dX6_isSign_21 : decode cX6_isSign 21 = .ok (.if_icmp .eq 9, 3) := by decide +kernel
theorem dX6_isSign_24 : decode cX6_isSign 24 = .ok (.iload_n 0, 1) := by decide +kernel
theorem dX6_isSign_25 : decode cX6_isSign 25 = .ok (.bipush 61, 2) := by decide +kernel
theorem dX6_isSign_27 : decode cX6_isSign 27 = .ok (.if_icmp .ne 7, 3) := by decide +kernel
theorem dX6_isSign_30 : decode cX6_isSign 30 = .ok (.iconst 1, 1) := by decide +kernel
theorem dX6_isSign_31 : decode cX6_isSign 31 = .ok (.goto 4, 3) := by decide +kernel
theorem dX6_isSign_34 : decode cX6_isSign 34 = .ok (.iconst 0, 1) := by decide +kernel
theorem dX6_isSign_35 : decode cX6_isSign 35 = .ok (.ireturn, 1) := by decide +kernel
theorem dX7_init_0 : decode cX7_init 0 = .ok (.aload_n 0, 1) := by decide +kernel
theorem dX7_init_1 : decode cX7_init 1 = .ok (.invokespecial 3, 3) := by decide +kernel
theorem dX7_init_4 : decode cX7_init 4 = .ok (.aload_n 0, 1) := by decide +kernel
theorem dX7_init_5 : decode cX7_init 5 = .ok (.iconst 2, 1) := by decide +kernel
theorem dX7_init_6 : decode cX7_init 6 = .ok (.putfield 9, 3) := by decide +kernel
theorem dX7_init_9 : decode cX7_init 9 = .ok (.aload_n 0, 1) := by decide +kernel
theorem dX7_init_10 : decode cX7_init 10 = .ok (.bipush (-2), 2) := by decide +kernel
theorem dX7_init_12 : decode cX7_init 12 = .ok (.putfield 15, 3) := by decide +kernel
theorem dX7_init_15 : decode cX7_init 15 = .ok (.aload_n 0, 1) := by decide +kernel
theorem dX7_init_16 : decode cX7_init 16 = .ok (.iload_n 1, 1) := by decide +kernel
theorem dX7_init_17 : decode cX7_init 17 = .ok (.putfield 18, 3) := by decide +kernel
theorem dX7_init_20 : decode cX7_init 20 = .ok (.return_, 1) := by decide +kernel
theorem dX7_givesTo_0 : decode cX7_givesTo 0 = .ok (.bipush 100, 2) := by decide +kernel
theorem dX7_givesTo_2 : decode cX7_givesTo 2 = .ok (.aload_n 1, 1) := by decide +kernel
theorem dX7_givesTo_3 : decode cX7_givesTo 3 = .ok (.getfield 21, 3) := by decide +kernel
theorem dX7_givesTo_6 : decode cX7_givesTo 6 = .ok (.iadd, 1) := by decide +kernel
theorem dX7_givesTo_7 : decode cX7_givesTo 7 = .ok (.istore_n 3, 1) := by decide +kernel
theorem dX7_givesTo_8 : decode cX7_givesTo 8 = .ok (.aload_n 0, 1) := by decide +kernel
theorem dX7_givesTo_9 : decode cX7_givesTo 9 = .ok (.getfield 9, 3) := by decide +kernel
theorem dX7_givesTo_12 : decode cX7_givesTo 12 = .ok (.iconst 2, 1) := by decide +kernel
theorem dX7_givesTo_13 : decode cX7_givesTo 13 = .ok (.if_icmp .eq 8, 3) := by decide +kernel
theorem dX7_givesTo_16 : decode cX7_givesTo 16 = .ok (.iload_n 3, 1) := by decide +kernel
theorem dX7_givesTo_17 : decode cX7_givesTo 17 = .ok (.iconst 1, 1) := by decide +kernel
theorem dX7_givesTo_18 : decode cX7_givesTo 18 = .ok (.if_icmp .ge 5, 3) := by decide +kernel
theorem dX7_givesTo_21 : decode cX7_givesTo 21 = .ok (.iconst 0, 1) := by decide +kernel
theorem dX7_givesTo_22 : decode cX7_givesTo 22 = .ok (.ireturn, 1) := by decide +kernel
theorem dX7_givesTo_23 : decode cX7_givesTo 23 = .ok (.aload_n 0, 1) := by decide +kernel
theorem dX7_givesTo_24 : decode cX7_givesTo 24 = .ok (.getfield 26, 3) := by decide +kernel
theorem dX7_givesTo_27 : decode cX7_givesTo 27 = .ok (.iload_n 2, 1) := by decide +kernel
theorem dX7_givesTo_28 : decode cX7_givesTo 28 = .ok (.imul, 1) := by decide +kernel
theorem dX7_givesTo_29 : decode cX7_givesTo 29 = .ok (.iload_n 3, 1) := by decide +kernel
theorem dX7_givesTo_30 : decode cX7_givesTo 30 = .ok (.idiv, 1) := by decide +kernel
theorem dX7_givesTo_31 : decode cX7_givesTo 31 = .ok (.istore 4, 2) := by decide +kernel
theorem dX7_givesTo_33 : decode cX7_givesTo 33 = .ok (.aload_n 0, 1) := by decide +kernel
theorem dX7_givesTo_34 : decode cX7_givesTo 34 = .ok (.getfield 9, 3) := by decide +kernel
theorem dX7_givesTo_37 : decode cX7_givesTo 37 = .ok (.iconst 1, 1) := by decide +kernel
theorem dX7_givesTo_38 : decode cX7_givesTo 38 = .ok (.if_icmp .ne 9, 3) := by decide +kernel
theorem dX7_givesTo_41 : decode cX7_givesTo 41 = .ok (.iload 4, 2) := by decide +kernel
theorem dX7_givesTo_43 : decode cX7_givesTo 43 = .ok (.iconst 2, 1) := by decide +kernel
theorem dX7_givesTo_44 : decode cX7_givesTo 44 = .ok (.idiv, 1) := by decide +kernel
theorem dX7_givesTo_45 : decode cX7_givesTo 45 = .ok (.istore 4, 2) := by decide +kernel
theorem dX7_givesTo_47 : decode cX7_givesTo 47 = .ok (.iload 4, 2) := by decide +kernel
theorem dX7_givesTo_49 : decode cX7_givesTo 49 = .ok (.aload_n 1, 1) := by decide +kernel
theorem dX7_givesTo_50 : decode cX7_givesTo 50 = .ok (.invokevirtual 29, 3) := by decide +kernel
theorem dX7_givesTo_53 : decode cX7_givesTo 53 = .ok (.invokestatic 33, 3) := by decide +kernel
theorem dX7_givesTo_56 : decode cX7_givesTo 56 = .ok (.ireturn, 1) := by decide +kernel
theorem dX7_soak_0 : decode cX7_soak 0 = .ok (.aload_n 0, 1) := by decide +kernel
theorem dX7_soak_1 : decode cX7_soak 1 = .ok (.dup, 1) := by decide +kernel
theorem dX7_soak_2 : decode cX7_soak 2 = .ok (.getfield 26, 3) := by decide +kernel
theorem dX7_soak_5 : decode cX7_soak 5 = .ok (.iload_n 3, 1) := by decide +kernel
theorem dX7_soak_6 : decode cX7_soak 6 = .ok (.isub, 1) := by decide +kernel
theorem dX7_soak_7 : decode cX7_soak 7 = .ok (.putfield 26, 3) := by decide +kernel
theorem dX7_soak_10 : decode cX7_soak 10 = .ok (.aload_n 1, 1) := by decide +kernel
theorem dX7_soak_11 : decode cX7_soak 11 = .ok (.dup, 1) := by decide +kernel
theorem dX7_soak_12 : decode cX7_soak 12 = .ok (.getfield 39, 3) := by decide +kernel
theorem dX7_soak_15 : decode cX7_soak 15 = .ok (.iload_n 3, 1) := by decide +kernel
theorem dX7_soak_16 : decode cX7_soak 16 = .ok (.iadd, 1) := by decide +kernel
theorem dX7_soak_17 : decode cX7_soak 17 = .ok (.putfield 39, 3) := by decide +kernel
theorem dX7_soak_20 : decode cX7_soak 20 = .ok (.aload_n 0, 1) := by decide +kernel
theorem dX7_soak_21 : decode cX7_soak 21 = .ok (.dup, 1) := by decide +kernel
theorem dX7_soak_22 : decode cX7_soak 22 = .ok (.getfield 42, 3) := by decide +kernel
theorem dX7_soak_25 : decode cX7_soak 25 = .ok (.iload_n 2, 1) := by decide +kernel
theorem dX7_soak_26 : decode cX7_soak 26 = .ok (.iadd, 1) := by decide +kernel
theorem dX7_soak_27 : decode cX7_soak 27 = .ok (.putfield 42, 3) := by decide +kernel
theorem dX7_soak_30 : decode cX7_soak 30 = .ok (.aload_n 0, 1) := by decide +kernel
theorem dX7_soak_31 : decode cX7_soak 31 = .ok (.getfield 42, 3) := by decide +kernel
theorem dX7_soak_34 : decode cX7_soak 34 = .ok (.bipush 60, 2) := by decide +kernel
theorem dX7_soak_36 : decode cX7_soak 36 = .ok (.if_icmp .le 8, 3) := by decide +kernel
theorem dX7_soak_39 : decode cX7_soak 39 = .ok (.aload_n 0, 1) := by decide +kernel
theorem dX7_soak_40 : decode cX7_soak 40 = .ok (.iconst 1, 1) := by decide +kernel
theorem dX7_soak_41 : decode cX7_soak 41 = .ok (.putfield 9, 3) := by decide +kernel
theorem dX7_soak_44 : decode cX7_soak 44 = .ok (.aload_n 0, 1) := by decide +kernel
theorem dX7_soak_45 : decode cX7_soak 45 = .ok (.dup, 1) := by decide +kernel
theorem dX7_soak_46 : decode cX7_soak 46 = .ok (.getfield 45, 3) := by decide +kernel
theorem dX7_soak_49 : decode cX7_soak 49 = .ok (.iload_n 2, 1) := by decide +kernel
theorem dX7_soak_50 : decode cX7_soak 50 = .ok (.isub, 1) := by decide +kernel
theorem dX7_soak_51 : decode cX7_soak 51 = .ok (.putfield 45, 3) := by decide +kernel
theorem dX7_soak_54 : decode cX7_soak 54 = .ok (.aload_n 0, 1) := by decide +kernel
theorem dX7_soak_55 : decode cX7_soak 55 = .ok (.getfield 45, 3) := by decide +kernel
theorem dX7_soak_58 : decode cX7_soak 58 = .ok (.iconst 1, 1) := by decide +kernel
theorem dX7_soak_59 : decode cX7_soak 59 = .ok (.if_icmp .ge 13, 3) := by decide +kernel
theorem dX7_soak_62 : decode cX7_soak 62 = .ok (.aload_n 0, 1) := by decide +kernel
theorem dX7_soak_63 : decode cX7_soak 63 = .ok (.iconst 0, 1) := by decide +kernel
theorem dX7_soak_64 : decode cX7_soak 64 = .ok (.putfield 45, 3) := by decide +kernel
theorem dX7_soak_67 : decode cX7_soak 67 = .ok (.aload_n 0, 1) := by decide +kernel
theorem dX7_soak_68 : decode cX7_soak 68 = .ok (.iconst 2, 1) := by decide +kernel
theorem dX7_soak_69 : decode cX7_soak 69 = .ok (.putfield 9, 3) := by decide +kernel
theorem dX7_soak_72 : decode cX7_soak 72 = .ok (.return_, 1) := by decide +kernel
theorem dX7_takeFood_0 : decode cX7_takeFood 0 = .ok (.aload_n 0, 1) := by decide +kernel
theorem dX7_takeFood_1 : decode cX7_takeFood 1 = .ok (.dup, 1) := by decide +kernel
theorem dX7_takeFood_2 : decode cX7_takeFood 2 = .ok (.getfield 45, 3) := by decide +kernel
theorem dX7_takeFood_5 : decode cX7_takeFood 5 = .ok (.iload_n 1, 1) := by decide +kernel
theorem dX7_takeFood_6 : decode cX7_takeFood 6 = .ok (.iadd, 1) := by decide +kernel
theorem dX7_takeFood_7 : decode cX7_takeFood 7 = .ok (.putfield 45, 3) := by decide +kernel
theorem dX7_takeFood_10 : decode cX7_takeFood 10 = .ok (.aload_n 0, 1) := by decide +kernel
theorem dX7_takeFood_11 : decode cX7_takeFood 11 = .ok (.getfield 45, 3) := by decide +kernel
theorem dX7_takeFood_14 : decode cX7_takeFood 14 = .ok (.sipush 1000, 3) := by decide +kernel
theorem dX7_takeFood_17 : decode cX7_takeFood 17 = .ok (.if_icmp .gt 5, 3) := by decide +kernel
theorem dX7_takeFood_20 : decode cX7_takeFood 20 = .ok (.iconst 1, 1) := by decide +kernel
theorem dX7_takeFood_21 : decode cX7_takeFood 21 = .ok (.ireturn, 1) := by decide +kernel
theorem dX7_takeFood_22 : decode cX7_takeFood 22 = .ok (.aload_n 0, 1) := by decide +kernel
theorem dX7_takeFood_23 : decode cX7_takeFood 23 = .ok (.sipush 1000, 3) := by decide +kernel
theorem dX7_takeFood_26 : decode cX7_takeFood 26 = .ok (.putfield 45, 3) := by decide +kernel
theorem dX7_takeFood_29 : decode cX7_takeFood 29 = .ok (.aload_n 0, 1) := by decide +kernel
theorem dX7_takeFood_30 : decode cX7_takeFood 30 = .ok (.iconst 2, 1) := by decide +kernel
theorem dX7_takeFood_31 : decode cX7_takeFood 31 = .ok (.putfield 9, 3) := by decide +kernel
theorem dX7_takeFood_34 : decode cX7_takeFood 34 = .ok (.iconst 0, 1) := by decide +kernel
theorem dX7_takeFood_35 : decode cX7_takeFood 35 = .ok (.ireturn, 1) := by decide +kernel
theorem dX7_takeLime_0 : decode cX7_takeLime 0 = .ok (.aload_n 0, 1) := by decide +kernel
theorem dX7_takeLime_1 : decode cX7_takeLime 1 = .ok (.getfield 9, 3) := by decide +kernel
theorem dX7_takeLime_4 : decode cX7_takeLime 4 = .ok (.iconst 2, 1) := by decide +kernel
theorem dX7_takeLime_5 : decode cX7_takeLime 5 = .ok (.if_icmp .ne 20, 3) := by decide +kernel
theorem dX7_takeLime_8 : decode cX7_takeLime 8 = .ok (.aload_n 0, 1) := by decide +kernel
theorem dX7_takeLime_9 : decode cX7_takeLime 9 = .ok (.iconst 0, 1) := by decide +kernel
theorem dX7_takeLime_10 : decode cX7_takeLime 10 = .ok (.putfield 42, 3) := by decide +kernel
theorem dX7_takeLime_13 : decode cX7_takeLime 13 = .ok (.aload_n 0, 1) := by decide +kernel
theorem dX7_takeLime_14 : decode cX7_takeLime 14 = .ok (.getfield 45, 3) := by decide +kernel
theorem dX7_takeLime_17 : decode cX7_takeLime 17 = .ok (.ifCond .le 8, 3) := by decide +kernel
theorem dX7_takeLime_20 : decode cX7_takeLime 20 = .ok (.aload_n 0, 1) := by decide +kernel
theorem dX7_takeLime_21 : decode cX7_takeLime 21 = .ok (.iconst 1, 1) := by decide +kernel
theorem dX7_takeLime_22 : decode cX7_takeLime 22 = .ok (.putfield 9, 3) := by decide +kernel
theorem dX7_takeLime_25 : decode cX7_takeLime 25 = .ok (.aload_n 0, 1) := by decide +kernel
theorem dX7_takeLime_26 : decode cX7_takeLime 26 = .ok (.aload_n 0, 1) := by decide +kernel
theorem dX7_takeLime_27 : decode cX7_takeLime 27 = .ok (.getfield 45, 3) := by decide +kernel
theorem dX7_takeLime_30 : decode cX7_takeLime 30 = .ok (.iconst 2, 1) := by decide +kernel
theorem dX7_takeLime_31 : decode cX7_takeLime 31 = .ok (.idiv, 1) := by decide +kernel
theorem dX7_takeLime_32 : decode cX7_takeLime 32 = .ok (.putfield 45, 3) := by decide +kernel
theorem dX7_takeLime_35 : decode cX7_takeLime 35 = .ok (.return_, 1) := by decide +kernel
theorem dX7_liveThrough_0 : decode cX7_liveThrough 0 = .ok (.aload_n 0, 1) := by decide +kernel
theorem dX7_liveThrough_1 : decode cX7_liveThrough 1 = .ok (.iconst 0, 1) := by decide +kernel
theorem dX7_liveThrough_2 : decode cX7_liveThrough 2 = .ok (.aload_n 0, 1) := by decide +kernel
theorem dX7_liveThrough_3 : decode cX7_liveThrough 3 = .ok (.getfield 45, 3) := by decide +kernel
theorem dX7_liveThrough_6 : decode cX7_liveThrough 6 = .ok (.iconst 5, 1) := by decide +kernel
theorem dX7_liveThrough_7 : decode cX7_liveThrough 7 = .ok (.isub, 1) := by decide +kernel
theorem dX7_liveThrough_8 : decode cX7_liveThrough 8 = .ok (.invokestatic 48, 3) := by decide +kernel
theorem dX7_liveThrough_11 : decode cX7_liveThrough 11 = .ok (.putfield 45, 3) := by decide +kernel
theorem dX7_liveThrough_14 : decode cX7_liveThrough 14 = .ok (.aload_n 0, 1) := by decide +kernel
theorem dX7_liveThrough_15 : decode cX7_liveThrough 15 = .ok (.getfield 45, 3) := by decide +kernel
theorem dX7_liveThrough_18 : decode cX7_liveThrough 18 = .ok (.ifCond .ne 11, 3) := by decide +kernel
theorem dX7_liveThrough_21 : decode cX7_liveThrough 21 = .ok (.aload_n 0, 1) := by decide +kernel
theorem dX7_liveThrough_22 : decode cX7_liveThrough 22 = .ok (.iconst 2, 1) := by decide +kernel
theorem dX7_liveThrough_23 : decode cX7_liveThrough 23 = .ok (.putfield 9, 3) := by decide +kernel
theorem dX7_liveThrough_26 : decode cX7_liveThrough 26 = .ok (.goto 31, 3) := by decide +kernel
theorem dX7_liveThrough_29 : decode cX7_liveThrough 29 = .ok (.aload_n 0, 1) := by decide +kernel
theorem dX7_liveThrough_30 : decode cX7_liveThrough 30 = .ok (.getfield 9, 3) := by decide +kernel
theorem dX7_liveThrough_33 : decode cX7_liveThrough 33 = .ok (.iconst 2, 1) := by decide +kernel
theorem dX7_liveThrough_34 : decode cX7_liveThrough 34 = .ok (.if_icmp .eq 23, 3) := by decide +kernel
theorem dX7_liveThrough_37 : decode cX7_liveThrough 37 = .ok (.aload_n 0, 1) := by decide +kernel
theorem dX7_liveThrough_38 : decode cX7_liveThrough 38 = .ok (.getfield 15, 3) := by decide +kernel
theorem dX7_liveThrough_41 : decode cX7_liveThrough 41 = .ok (.iload_n 1, 1) := by decide +kernel
theorem dX7_liveThrough_42 : decode cX7_liveThrough 42 = .ok (.iconst 1, 1) := by decide +kernel
theorem dX7_liveThrough_43 : decode cX7_liveThrough 43 = .ok (.isub, 1) := by decide +kernel
theorem dX7_liveThrough_44 : decode cX7_liveThrough 44 = .ok (.if_icmp .ge 13, 3) := by decide +kernel
theorem dX7_liveThrough_47 : decode cX7_liveThrough 47 = .ok (.aload_n 0, 1) := by decide +kernel
theorem dX7_liveThrough_48 : decode cX7_liveThrough 48 = .ok (.iconst 0, 1) := by decide +kernel
theorem dX7_liveThrough_49 : decode cX7_liveThrough 49 = .ok (.putfield 9, 3) := by decide +kernel
theorem dX7_liveThrough_52 : decode cX7_liveThrough 52 = .ok (.aload_n 0, 1) := by decide +kernel
theorem dX7_liveThrough_53 : decode cX7_liveThrough 53 = .ok (.iconst 0, 1) := by decide +kernel
theorem dX7_liveThrough_54 : decode cX7_liveThrough 54 = .ok (.putfield 42, 3) := by decide +kernel
theorem dX7_liveThrough_57 : decode cX7_liveThrough 57 = .ok (.return_, 1) := by decide +kernel
theorem dX7_copyFrom_0 : decode cX7_copyFrom 0 = .ok (.aload_n 0, 1) := by decide +kernel
theorem dX7_copyFrom_1 : decode cX7_copyFrom 1 = .ok (.aload_n 1, 1) := by decide +kernel
theorem dX7_copyFrom_2 : decode cX7_copyFrom 2 = .ok (.getfield 26, 3) := by decide +kernel
theorem dX7_copyFrom_5 : decode cX7_copyFrom 5 = .ok (.putfield 26, 3) := by decide +kernel
theorem dX7_copyFrom_8 : decode cX7_copyFrom 8 = .ok (.aload_n 0, 1) := by decide +kernel
theorem dX7_copyFrom_9 : decode cX7_copyFrom 9 = .ok (.aload_n 1, 1) := by decide +kernel
theorem dX7_copyFrom_10 : decode cX7_copyFrom 10 = .ok (.getfield 45, 3) := by decide +kernel
theorem dX7_copyFrom_13 : decode cX7_copyFrom 13 = .ok (.putfield 45, 3) := by decide +kernel
theorem dX7_copyFrom_16 : decode cX7_copyFrom 16 = .ok (.aload_n 0, 1) := by decide +kernel
theorem dX7_copyFrom_17 : decode cX7_copyFrom 17 = .ok (.aload_n 1, 1) := by decide +kernel
theorem dX7_copyFrom_18 : decode cX7_copyFrom 18 = .ok (.getfield 42, 3) := by decide +kernel
theorem dX7_copyFrom_21 : decode cX7_copyFrom 21 = .ok (.putfield 42, 3) := by decide +kernel
theorem dX7_copyFrom_24 : decode cX7_copyFrom 24 = .ok (.aload_n 0, 1) := by decide +kernel
theorem dX7_copyFrom_25 : decode cX7_copyFrom 25 = .ok (.aload_n 1, 1) := by decide +kernel
theorem dX7_copyFrom_26 : decode cX7_copyFrom 26 = .ok (.getfield 9, 3) := by decide +kernel
theorem dX7_copyFrom_29 : decode cX7_copyFrom 29 = .ok (.putfield 9, 3) := by decide +kernel
theorem dX7_copyFrom_32 : decode cX7_copyFrom 32 = .ok (.return_, 1) := by decide +kernel
theorem dX8_init_0 : decode cX8_init 0 = .ok (.aload_n 0, 1) := by decide +kernel
theorem dX8_init_1 : decode cX8_init 1 = .ok (.invokespecial 3, 3) := by decide +kernel
theorem dX8_init_4 : decode cX8_init 4 = .ok (.aload_n 0, 1) := by decide +kernel
theorem dX8_init_5 : decode cX8_init 5 = .ok (.bipush 6, 2) := by decide +kernel
theorem dX8_init_7 : decode cX8_init 7 = .ok (.anewarray 9, 3) := by decide +kernel
theorem dX8_init_10 : decode cX8_init 10 = .ok (.putfield 11, 3) := by decide +kernel
theorem dX8_init_13 : decode cX8_init 13 = .ok (.iconst 0, 1) := by decide +kernel
theorem dX8_init_14 : decode cX8_init 14 = .ok (.istore_n 1, 1) := by decide +kernel
theorem dX8_init_15 : decode cX8_init 15 = .ok (.iload_n 1, 1) := by decide +kernel
theorem dX8_init_16 : decode cX8_init 16 = .ok (.aload_n 0, 1) := by decide +kernel
theorem dX8_init_17 : decode cX8_init 17 = .ok (.getfield 11, 3) := by decide +kernel
theorem dX8_init_20 : decode cX8_init 20 = .ok (.arraylength, 1) := by decide +kernel
theorem dX8_init_21 : decode cX8_init 21 = .ok (.if_icmp .ge 23, 3) := by decide +kernel
theorem dX8_init_24 : decode cX8_init 24 = .ok (.aload_n 0, 1) := by decide +kernel
theorem dX8_init_25 : decode cX8_init 25 = .ok (.getfield 11, 3) := by decide +kernel
theorem dX8_init_28 : decode cX8_init 28 = .ok (.iload_n 1, 1) := by decide +kernel
theorem dX8_init_29 : decode cX8_init 29 = .ok (.new 9, 3) := by decide +kernel
theorem dX8_init_32 : decode cX8_init 32 = .ok (.dup, 1) := by decide +kernel
theorem dX8_init_33 : decode cX8_init 33 = .ok (.iload_n 1, 1) := by decide +kernel
theorem dX8_init_34 : decode cX8_init 34 = .ok (.invokespecial 17, 3) := by decide +kernel
theorem dX8_init_37 : decode cX8_init 37 = .ok (.aastore, 1) := by decide +kernel
theorem dX8_init_38 : decode cX8_init 38 = .ok (.iinc 1 1, 3) := by decide +kernel
theorem dX8_init_41 : decode cX8_init 41 = .ok (.goto (-26), 3) := by decide +kernel
theorem dX8_init_44 : decode cX8_init 44 = .ok (.return_, 1) := by decide +kernel
theorem dX8_vatAt_0 : decode cX8_vatAt 0 = .ok (.iload_n 1, 1) := by decide +kernel
theorem dX8_vatAt_1 : decode cX8_vatAt 1 = .ok (.ifCond .lt 12, 3) := by decide +kernel
theorem dX8_vatAt_4 : decode cX8_vatAt 4 = .ok (.iload_n 1, 1) := by decide +kernel
theorem dX8_vatAt_5 : decode cX8_vatAt 5 = .ok (.aload_n 0, 1) := by decide +kernel
theorem dX8_vatAt_6 : decode cX8_vatAt 6 = .ok (.getfield 11, 3) := by decide +kernel
theorem dX8_vatAt_9 : decode cX8_vatAt 9 = .ok (.arraylength, 1) := by decide +kernel
theorem dX8_vatAt_10 : decode cX8_vatAt 10 = .ok (.if_icmp .lt 13, 3) := by decide +kernel
theorem dX8_vatAt_13 : decode cX8_vatAt 13 = .ok (.new 20, 3) := by decide +kernel
theorem dX8_vatAt_16 : decode cX8_vatAt 16 = .ok (.dup, 1) := by decide +kernel
theorem dX8_vatAt_17 : decode cX8_vatAt 17 = .ok (.ldc 22, 2) := by decide +kernel
theorem dX8_vatAt_19 : decode cX8_vatAt 19 = .ok (.invokespecial 24, 3) := by decide +kernel
theorem dX8_vatAt_22 : decode cX8_vatAt 22 = .ok (.athrow, 1) := by decide +kernel
theorem dX8_vatAt_23 : decode cX8_vatAt 23 = .ok (.aload_n 0, 1) := by decide +kernel
theorem dX8_vatAt_24 : decode cX8_vatAt 24 = .ok (.getfield 11, 3) := by decide +kernel
theorem dX8_vatAt_27 : decode cX8_vatAt 27 = .ok (.iload_n 1, 1) := by decide +kernel
theorem dX8_vatAt_28 : decode cX8_vatAt 28 = .ok (.aaload, 1) := by decide +kernel
theorem dX8_vatAt_29 : decode cX8_vatAt 29 = .ok (.areturn, 1) := by decide +kernel
theorem dX8_dipInto_0 : decode cX8_dipInto 0 = .ok (.aload_n 1, 1) := by decide +kernel
theorem dX8_dipInto_1 : decode cX8_dipInto 1 = .ok (.aload_n 2, 1) := by decide +kernel
theorem dX8_dipInto_2 : decode cX8_dipInto 2 = .ok (.iload_n 3, 1) := by decide +kernel
theorem dX8_dipInto_3 : decode cX8_dipInto 3 = .ok (.iload 4, 2) := by decide +kernel
theorem dX8_dipInto_5 : decode cX8_dipInto 5 = .ok (.invokevirtual 27, 3) := by decide +kernel
theorem dX8_dipInto_8 : decode cX8_dipInto 8 = .ok (.aload_n 1, 1) := by decide +kernel
theorem dX8_dipInto_9 : decode cX8_dipInto 9 = .ok (.aload_n 0, 1) := by decide +kernel
theorem dX8_dipInto_10 : decode cX8_dipInto 10 = .ok (.getfield 31, 3) := by decide +kernel
theorem dX8_dipInto_13 : decode cX8_dipInto 13 = .ok (.putfield 35, 3) := by decide +kernel
theorem dX8_dipInto_16 : decode cX8_dipInto 16 = .ok (.aload_n 1, 1) := by decide +kernel
theorem dX8_dipInto_17 : decode cX8_dipInto 17 = .ok (.dup, 1) := by decide +kernel
theorem dX8_dipInto_18 : decode cX8_dipInto 18 = .ok (.getfield 38, 3) := by decide +kernel
theorem dX8_dipInto_21 : decode cX8_dipInto 21 = .ok (.iconst 1, 1) := by decide +kernel
theorem dX8_dipInto_22 : decode cX8_dipInto 22 = .ok (.iadd, 1) := by decide +kernel
theorem dX8_dipInto_23 : decode cX8_dipInto 23 = .ok (.putfield 38, 3) := by decide +kernel
theorem dX8_dipInto_26 : decode cX8_dipInto 26 = .ok (.aload_n 1, 1) := by decide +kernel
theorem dX8_dipInto_27 : decode cX8_dipInto 27 = .ok (.dup, 1) := by decide +kernel
theorem dX8_dipInto_28 : decode cX8_dipInto 28 = .ok (.getfield 41, 3) := by decide +kernel
theorem dX8_dipInto_31 : decode cX8_dipInto 31 = .ok (.iconst 1, 1) := by decide +kernel
theorem dX8_dipInto_32 : decode cX8_dipInto 32 = .ok (.aload_n 2, 1) := by decide +kernel
theorem dX8_dipInto_33 : decode cX8_dipInto 33 = .ok (.getfield 44, 3) := by decide +kernel
theorem dX8_dipInto_36 : decode cX8_dipInto 36 = .ok (.ishl, 1) := by decide +kernel
theorem dX8_dipInto_37 : decode cX8_dipInto 37 = .ok (.ior, 1) := by decide +kernel
theorem dX8_dipInto_38 : decode cX8_dipInto 38 = .ok (.putfield 41, 3) := by decide +kernel
theorem dX8_dipInto_41 : decode cX8_dipInto 41 = .ok (.aload_n 2, 1) := by decide +kernel
theorem dX8_dipInto_42 : decode cX8_dipInto 42 = .ok (.dup, 1) := by decide +kernel
theorem dX8_dipInto_43 : decode cX8_dipInto 43 = .ok (.getfield 49, 3) := by decide +kernel
theorem dX8_dipInto_46 : decode cX8_dipInto 46 = .ok (.iconst 1, 1) := by decide +kernel
theorem dX8_dipInto_47 : decode cX8_dipInto 47 = .ok (.iadd, 1) := by decide +kernel
theorem dX8_dipInto_48 : decode cX8_dipInto 48 = .ok (.putfield 49, 3) := by decide +kernel
theorem dX8_dipInto_51 : decode cX8_dipInto 51 = .ok (.aload_n 2, 1) := by decide +kernel
theorem dX8_dipInto_52 : decode cX8_dipInto 52 = .ok (.dup, 1) := by decide +kernel
theorem dX8_dipInto_53 : decode cX8_dipInto 53 = .ok (.getfield 50, 3) := by decide +kernel
theorem dX8_dipInto_56 : decode cX8_dipInto 56 = .ok (.iconst 1, 1) := by decide +kernel
theorem dX8_dipInto_57 : decode cX8_dipInto 57 = .ok (.aload_n 1, 1) := by decide +kernel
theorem dX8_dipInto_58 : decode cX8_dipInto 58 = .ok (.getfield 53, 3) := by decide +kernel
theorem dX8_dipInto_61 : decode cX8_dipInto 61 = .ok (.ishl, 1) := by decide +kernel
theorem dX8_dipInto_62 : decode cX8_dipInto 62 = .ok (.ior, 1) := by decide +kernel
theorem dX8_dipInto_63 : decode cX8_dipInto 63 = .ok (.putfield 50, 3) := by decide +kernel
theorem dX8_dipInto_66 : decode cX8_dipInto 66 = .ok (.return_, 1) := by decide +kernel
theorem dX8_airOut_0 : decode cX8_airOut 0 = .ok (.aload_n 1, 1) := by decide +kernel
theorem dX8_airOut_1 : decode cX8_airOut 1 = .ok (.invokevirtual 54, 3) := by decide +kernel
theorem dX8_airOut_4 : decode cX8_airOut 4 = .ok (.istore_n 2, 1) := by decide +kernel
theorem dX8_airOut_5 : decode cX8_airOut 5 = .ok (.aload_n 0, 1) := by decide +kernel
theorem dX8_airOut_6 : decode cX8_airOut 6 = .ok (.dup, 1) := by decide +kernel
theorem dX8_airOut_7 : decode cX8_airOut 7 = .ok (.getfield 58, 3) := by decide +kernel
theorem dX8_airOut_10 : decode cX8_airOut 10 = .ok (.iload_n 2, 1) := by decide +kernel
theorem dX8_airOut_11 : decode cX8_airOut 11 = .ok (.iadd, 1) := by decide +kernel
theorem dX8_airOut_12 : decode cX8_airOut 12 = .ok (.putfield 58, 3) := by decide +kernel
theorem dX8_airOut_15 : decode cX8_airOut 15 = .ok (.iload_n 2, 1) := by decide +kernel
theorem dX8_airOut_16 : decode cX8_airOut 16 = .ok (.ireturn, 1) := by decide +kernel
theorem dX8_washOut_0 : decode cX8_washOut 0 = .ok (.aload_n 1, 1) := by decide +kernel
theorem dX8_washOut_1 : decode cX8_washOut 1 = .ok (.invokevirtual 61, 3) := by decide +kernel
theorem dX8_washOut_4 : decode cX8_washOut 4 = .ok (.istore_n 2, 1) := by decide +kernel
theorem dX8_washOut_5 : decode cX8_washOut 5 = .ok (.aload_n 0, 1) := by decide +kernel
theorem dX8_washOut_6 : decode cX8_washOut 6 = .ok (.dup, 1) := by decide +kernel
theorem dX8_washOut_7 : decode cX8_washOut 7 = .ok (.getfield 58, 3) := by decide +kernel
theorem dX8_washOut_10 : decode cX8_washOut 10 = .ok (.iload_n 2, 1) := by decide +kernel
theorem dX8_washOut_11 : decode cX8_washOut 11 = .ok (.iadd, 1) := by decide +kernel
theorem dX8_washOut_12 : decode cX8_washOut 12 = .ok (.putfield 58, 3) := by decide +kernel
theorem dX8_washOut_15 : decode cX8_washOut 15 = .ok (.iload_n 2, 1) := by decide +kernel
theorem dX8_washOut_16 : decode cX8_washOut 16 = .ok (.ireturn, 1) := by decide +kernel
theorem dX8_dryOut_0 : decode cX8_dryOut 0 = .ok (.aload_n 0, 1) := by decide +kernel
theorem dX8_dryOut_1 : decode cX8_dryOut 1 = .ok (.aload_n 1, 1) := by decide +kernel
theorem dX8_dryOut_2 : decode cX8_dryOut 2 = .ok (.invokevirtual 64, 3) := by decide +kernel
theorem dX8_dryOut_5 : decode cX8_dryOut 5 = .ok (.istore_n 2, 1) := by decide +kernel
theorem dX8_dryOut_6 : decode cX8_dryOut 6 = .ok (.aload_n 1, 1) := by decide +kernel
theorem dX8_dryOut_7 : decode cX8_dryOut 7 = .ok (.iconst 1, 1) := by decide +kernel
theorem dX8_dryOut_8 : decode cX8_dryOut 8 = .ok (.putfield 68, 3) := by decide +kernel
theorem dX8_dryOut_11 : decode cX8_dryOut 11 = .ok (.aload_n 1, 1) := by decide +kernel
theorem dX8_dryOut_12 : decode cX8_dryOut 12 = .ok (.aload_n 0, 1) := by decide +kernel
theorem dX8_dryOut_13 : decode cX8_dryOut 13 = .ok (.getfield 31, 3) := by decide +kernel
theorem dX8_dryOut_16 : decode cX8_dryOut 16 = .ok (.bipush 24, 2) := by decide +kernel
theorem dX8_dryOut_18 : decode cX8_dryOut 18 = .ok (.idiv, 1) := by decide +kernel
theorem dX8_dryOut_19 : decode cX8_dryOut 19 = .ok (.putfield 72, 3) := by decide +kernel
theorem dX8_dryOut_22 : decode cX8_dryOut 22 = .ok (.iload_n 2, 1) := by decide +kernel
theorem dX8_dryOut_23 : decode cX8_dryOut 23 = .ok (.ireturn, 1) := by decide +kernel
theorem dX8_passHour_0 : decode cX8_passHour 0 = .ok (.iconst 0, 1) := by decide +kernel
theorem dX8_passHour_1 : decode cX8_passHour 1 = .ok (.istore_n 1, 1) := by decide +kernel
theorem dX8_passHour_2 : decode cX8_passHour 2 = .ok (.iload_n 1, 1) := by decide +kernel
theorem dX8_passHour_3 : decode cX8_passHour 3 = .ok (.aload_n 0, 1) := by decide +kernel
theorem dX8_passHour_4 : decode cX8_passHour 4 = .ok (.getfield 11, 3) := by decide +kernel
theorem dX8_passHour_7 : decode cX8_passHour 7 = .ok (.arraylength, 1) := by decide +kernel
theorem dX8_passHour_8 : decode cX8_passHour 8 = .ok (.if_icmp .ge 22, 3) := by decide +kernel
theorem dX8_passHour_11 : decode cX8_passHour 11 = .ok (.aload_n 0, 1) := by decide +kernel
theorem dX8_passHour_12 : decode cX8_passHour 12 = .ok (.getfield 11, 3) := by decide +kernel
theorem dX8_passHour_15 : decode cX8_passHour 15 = .ok (.iload_n 1, 1) := by decide +kernel
theorem dX8_passHour_16 : decode cX8_passHour 16 = .ok (.aaload, 1) := by decide +kernel
theorem dX8_passHour_17 : decode cX8_passHour 17 = .ok (.aload_n 0, 1) := by decide +kernel
theorem dX8_passHour_18 : decode cX8_passHour 18 = .ok (.getfield 31, 3) := by decide +kernel
theorem dX8_passHour_21 : decode cX8_passHour 21 = .ok (.invokevirtual 75, 3) := by decide +kernel
theorem dX8_passHour_24 : decode cX8_passHour 24 = .ok (.iinc 1 1, 3) := by decide +kernel
theorem dX8_passHour_27 : decode cX8_passHour 27 = .ok (.goto (-25), 3) := by decide +kernel
theorem dX8_passHour_30 : decode cX8_passHour 30 = .ok (.aload_n 0, 1) := by decide +kernel
theorem dX8_passHour_31 : decode cX8_passHour 31 = .ok (.dup, 1) := by decide +kernel
theorem dX8_passHour_32 : decode cX8_passHour 32 = .ok (.getfield 31, 3) := by decide +kernel
theorem dX8_passHour_35 : decode cX8_passHour 35 = .ok (.iconst 1, 1) := by decide +kernel
theorem dX8_passHour_36 : decode cX8_passHour 36 = .ok (.iadd, 1) := by decide +kernel
theorem dX8_passHour_37 : decode cX8_passHour 37 = .ok (.putfield 31, 3) := by decide +kernel
theorem dX8_passHour_40 : decode cX8_passHour 40 = .ok (.return_, 1) := by decide +kernel
theorem dX8_passHours_0 : decode cX8_passHours 0 = .ok (.iload_n 1, 1) := by decide +kernel
theorem dX8_passHours_1 : decode cX8_passHours 1 = .ok (.sipush 200, 3) := by decide +kernel
theorem dX8_passHours_4 : decode cX8_passHours 4 = .ok (.invokestatic 78, 3) := by decide +kernel
theorem dX8_passHours_7 : decode cX8_passHours 7 = .ok (.istore_n 2, 1) := by decide +kernel
theorem dX8_passHours_8 : decode cX8_passHours 8 = .ok (.iconst 0, 1) := by decide +kernel
theorem dX8_passHours_9 : decode cX8_passHours 9 = .ok (.istore_n 3, 1) := by decide +kernel
theorem dX8_passHours_10 : decode cX8_passHours 10 = .ok (.iload_n 3, 1) := by decide +kernel
theorem dX8_passHours_11 : decode cX8_passHours 11 = .ok (.iload_n 2, 1) := by decide +kernel
theorem dX8_passHours_12 : decode cX8_passHours 12 = .ok (.if_icmp .ge 13, 3) := by decide +kernel
theorem dX8_passHours_15 : decode cX8_passHours 15 = .ok (.aload_n 0, 1) := by decide +kernel
theorem dX8_passHours_16 : decode cX8_passHours 16 = .ok (.invokevirtual 84, 3) := by decide +kernel
theorem dX8_passHours_19 : decode cX8_passHours 19 = .ok (.iinc 3 1, 3) := by decide +kernel
theorem dX8_passHours_22 : decode cX8_passHours 22 = .ok (.goto (-12), 3) := by decide +kernel
theorem dX8_passHours_25 : decode cX8_passHours 25 = .ok (.aload_n 0, 1) := by decide +kernel
theorem dX8_passHours_26 : decode cX8_passHours 26 = .ok (.dup, 1) := by decide +kernel
theorem dX8_passHours_27 : decode cX8_passHours 27 = .ok (.getfield 31, 3) := by decide +kernel
theorem dX8_passHours_30 : decode cX8_passHours 30 = .ok (.iload_n 1, 1) := by decide +kernel
theorem dX8_passHours_31 : decode cX8_passHours 31 = .ok (.iload_n 2, 1) := by decide +kernel
theorem dX8_passHours_32 : decode cX8_passHours 32 = .ok (.isub, 1) := by decide +kernel
theorem dX8_passHours_33 : decode cX8_passHours 33 = .ok (.iadd, 1) := by decide +kernel
theorem dX8_passHours_34 : decode cX8_passHours 34 = .ok (.putfield 31, 3) := by decide +kernel
theorem dX8_passHours_37 : decode cX8_passHours 37 = .ok (.return_, 1) := by decide +kernel
theorem dX9_init_0 : decode cX9_init 0 = .ok (.aload_n 0, 1) := by decide +kernel
theorem dX9_init_1 : decode cX9_init 1 = .ok (.invokespecial 1, 3) := by decide +kernel
theorem dX9_init_4 : decode cX9_init 4 = .ok (.aload_n 0, 1) := by decide +kernel
theorem dX9_init_5 : decode cX9_init 5 = .ok (.new 7, 3) := by decide +kernel
theorem dX9_init_8 : decode cX9_init 8 = .ok (.dup, 1) := by decide +kernel
theorem dX9_init_9 : decode cX9_init 9 = .ok (.invokespecial 9, 3) := by decide +kernel
theorem dX9_init_12 : decode cX9_init 12 = .ok (.putfield 10, 3) := by decide +kernel
theorem dX9_init_15 : decode cX9_init 15 = .ok (.aload_n 0, 1) := by decide +kernel
theorem dX9_init_16 : decode cX9_init 16 = .ok (.bipush 30, 2) := by decide +kernel
theorem dX9_init_18 : decode cX9_init 18 = .ok (.anewarray 16, 3) := by decide +kernel
theorem dX9_init_21 : decode cX9_init 21 = .ok (.putfield 18, 3) := by decide +kernel
theorem dX9_init_24 : decode cX9_init 24 = .ok (.aload_n 0, 1) := by decide +kernel
theorem dX9_init_25 : decode cX9_init 25 = .ok (.sipush 1500, 3) := by decide +kernel
theorem dX9_init_28 : decode cX9_init 28 = .ok (.newarray .byte, 2) := by decide +kernel
theorem dX9_init_30 : decode cX9_init 30 = .ok (.putfield 22, 3) := by decide +kernel
theorem dX9_init_33 : decode cX9_init 33 = .ok (.aload_n 0, 1) := by decide +kernel
theorem dX9_init_34 : decode cX9_init 34 = .ok (.new 26, 3) := by decide +kernel
theorem dX9_init_37 : decode cX9_init 37 = .ok (.dup, 1) := by decide +kernel
theorem dX9_init_38 : decode cX9_init 38 = .ok (.aload_n 0, 1) := by decide +kernel
theorem dX9_init_39 : decode cX9_init 39 = .ok (.getfield 22, 3) := by decide +kernel
theorem dX9_init_42 : decode cX9_init 42 = .ok (.invokespecial 28, 3) := by decide +kernel
theorem dX9_init_45 : decode cX9_init 45 = .ok (.putfield 31, 3) := by decide +kernel
theorem dX9_init_48 : decode cX9_init 48 = .ok (.aload_n 0, 1) := by decide +kernel
theorem dX9_init_49 : decode cX9_init 49 = .ok (.bipush 8, 2) := by decide +kernel
theorem dX9_init_51 : decode cX9_init 51 = .ok (.anewarray 35, 3) := by decide +kernel
theorem dX9_init_54 : decode cX9_init 54 = .ok (.putfield 37, 3) := by decide +kernel
theorem dX9_init_57 : decode cX9_init 57 = .ok (.aload_n 0, 1) := by decide +kernel
theorem dX9_init_58 : decode cX9_init 58 = .ok (.new 41, 3) := by decide +kernel
theorem dX9_init_61 : decode cX9_init 61 = .ok (.dup, 1) := by decide +kernel
theorem dX9_init_62 : decode cX9_init 62 = .ok (.aload_n 0, 1) := by decide +kernel
theorem dX9_init_63 : decode cX9_init 63 = .ok (.getfield 10, 3) := by decide +kernel
theorem dX9_init_66 : decode cX9_init 66 = .ok (.invokespecial 43, 3) := by decide +kernel
theorem dX9_init_69 : decode cX9_init 69 = .ok (.putfield 46, 3) := by decide +kernel
theorem dX9_init_72 : decode cX9_init 72 = .ok (.aload_n 0, 1) := by decide +kernel
theorem dX9_init_73 : decode cX9_init 73 = .ok (.new 50, 3) := by decide +kernel
theorem dX9_init_76 : decode cX9_init 76 = .ok (.dup, 1) := by decide +kernel
theorem dX9_init_77 : decode cX9_init 77 = .ok (.aload_n 0, 1) := by decide +kernel
theorem dX9_init_78 : decode cX9_init 78 = .ok (.getfield 10, 3) := by decide +kernel
theorem dX9_init_81 : decode cX9_init 81 = .ok (.invokespecial 52, 3) := by decide +kernel
theorem dX9_init_84 : decode cX9_init 84 = .ok (.putfield 53, 3) := by decide +kernel
theorem dX9_init_87 : decode cX9_init 87 = .ok (.return_, 1) := by decide +kernel
theorem dX9_charge_0 : decode cX9_charge 0 = .ok (.aload_n 0, 1) := by decide +kernel
theorem dX9_charge_1 : decode cX9_charge 1 = .ok (.getfield 10, 3) := by decide +kernel
theorem dX9_charge_4 : decode cX9_charge 4 = .ok (.iload_n 1, 1) := by decide +kernel
theorem dX9_charge_5 : decode cX9_charge 5 = .ok (.invokevirtual 57, 3) := by decide +kernel
theorem dX9_charge_8 : decode cX9_charge 8 = .ok (.astore_n 3, 1) := by decide +kernel
theorem dX9_charge_9 : decode cX9_charge 9 = .ok (.iload_n 2, 1) := by decide +kernel
theorem dX9_charge_10 : decode cX9_charge 10 = .ok (.iconst 1, 1) := by decide +kernel
theorem dX9_charge_11 : decode cX9_charge 11 = .ok (.if_icmp .lt 14, 3) := by decide +kernel
theorem dX9_charge_14 : decode cX9_charge 14 = .ok (.iload_n 2, 1) := by decide +kernel
theorem dX9_charge_15 : decode cX9_charge 15 = .ok (.ldc 61, 2) := by decide +kernel
theorem dX9_charge_17 : decode cX9_charge 17 = .ok (.aload_n 3, 1) := by decide +kernel
theorem dX9_charge_18 : decode cX9_charge 18 = .ok (.getfield 62, 3) := by decide +kernel
theorem dX9_charge_21 : decode cX9_charge 21 = .ok (.isub, 1) := by decide +kernel
theorem dX9_charge_22 : decode cX9_charge 22 = .ok (.if_icmp .le 5, 3) := by decide +kernel
theorem dX9_charge_25 : decode cX9_charge 25 = .ok (.iconst (-1), 1) := by decide +kernel
theorem dX9_charge_26 : decode cX9_charge 26 = .ok (.ireturn, 1) := by decide +kernel
theorem dX9_charge_27 : decode cX9_charge 27 = .ok (.aload_n 3, 1) := by decide +kernel
theorem dX9_charge_28 : decode cX9_charge 28 = .ok (.dup, 1) := by decide +kernel
theorem dX9_charge_29 : decode cX9_charge 29 = .ok (.getfield 62, 3) := by decide +kernel
theorem dX9_charge_32 : decode cX9_charge 32 = .ok (.iload_n 2, 1) := by decide +kernel
theorem dX9_charge_33 : decode cX9_charge 33 = .ok (.iadd, 1) := by decide +kernel
theorem dX9_charge_34 : decode cX9_charge 34 = .ok (.putfield 62, 3) := by decide +kernel
theorem dX9_charge_37 : decode cX9_charge 37 = .ok (.aload_n 0, 1) := by decide +kernel
theorem dX9_charge_38 : decode cX9_charge 38 = .ok (.dup, 1) := by decide +kernel
theorem dX9_charge_39 : decode cX9_charge 39 = .ok (.getfield 68, 3) := by decide +kernel
theorem dX9_charge_42 : decode cX9_charge 42 = .ok (.iload_n 2, 1) := by decide +kernel
theorem dX9_charge_43 : decode cX9_charge 43 = .ok (.iadd, 1) := by decide +kernel
theorem dX9_charge_44 : decode cX9_charge 44 = .ok (.putfield 68, 3) := by decide +kernel
theorem dX9_charge_47 : decode cX9_charge 47 = .ok (.aload_n 3, 1) := by decide +kernel
theorem dX9_charge_48 : decode cX9_charge 48 = .ok (.getfield 62, 3) := by decide +kernel
theorem dX9_charge_51 : decode cX9_charge 51 = .ok (.ireturn, 1) := by decide +kernel
theorem dX9_feed_0 : decode cX9_feed 0 = .ok (.aload_n 0, 1) := by decide +kernel
theorem dX9_feed_1 : decode cX9_feed 1 = .ok (.getfield 10, 3) := by decide +kernel
theorem dX9_feed_4 : decode cX9_feed 4 = .ok (.iload_n 1, 1) := by decide +kernel
theorem dX9_feed_5 : decode cX9_feed 5 = .ok (.invokevirtual 57, 3) := by decide +kernel
theorem dX9_feed_8 : decode cX9_feed 8 = .ok (.astore_n 3, 1) := by decide +kernel
theorem dX9_feed_9 : decode cX9_feed 9 = .ok (.iload_n 2, 1) := by decide +kernel
theorem dX9_feed_10 : decode cX9_feed 10 = .ok (.iconst 1, 1) := by decide +kernel
theorem dX9_feed_11 : decode cX9_feed 11 = .ok (.if_icmp .lt 14, 3) := by decide +kernel
theorem dX9_feed_14 : decode cX9_feed 14 = .ok (.iload_n 2, 1) := by decide +kernel
theorem dX9_feed_15 : decode cX9_feed 15 = .ok (.sipush 1000, 3) := by decide +kernel
theorem dX9_feed_18 : decode cX9_feed 18 = .ok (.if_icmp .gt 7, 3) := by decide +kernel
theorem dX9_feed_21 : decode cX9_feed 21 = .ok (.iconst 1, 1) := by decide +kernel
theorem dX9_feed_22 : decode cX9_feed 22 = .ok (.goto 4, 3) := by decide +kernel
theorem dX9_feed_25 : decode cX9_feed 25 = .ok (.iconst 0, 1) := by decide +kernel
theorem dX9_feed_26 : decode cX9_feed 26 = .ok (.invokestatic 71, 3) := by decide +kernel
theorem dX9_feed_29 : decode cX9_feed 29 = .ok (.aload_n 3, 1) := by decide +kernel
theorem dX9_feed_30 : decode cX9_feed 30 = .ok (.iload_n 2, 1) := by decide +kernel
theorem dX9_feed_31 : decode cX9_feed 31 = .ok (.invokevirtual 75, 3) := by decide +kernel
theorem dX9_feed_34 : decode cX9_feed 34 = .ok (.pop, 1) := by decide +kernel
theorem dX9_feed_35 : decode cX9_feed 35 = .ok (.aload_n 3, 1) := by decide +kernel
theorem dX9_feed_36 : decode cX9_feed 36 = .ok (.getfield 79, 3) := by decide +kernel
theorem dX9_feed_39 : decode cX9_feed 39 = .ok (.ireturn, 1) := by decide +kernel
theorem dX9_lime_0 : decode cX9_lime 0 = .ok (.aload_n 0, 1) := by decide +kernel
theorem dX9_lime_1 : decode cX9_lime 1 = .ok (.getfield 10, 3) := by decide +kernel
theorem dX9_lime_4 : decode cX9_lime 4 = .ok (.iload_n 1, 1) := by decide +kernel
theorem dX9_lime_5 : decode cX9_lime 5 = .ok (.invokevirtual 57, 3) := by decide +kernel
theorem dX9_lime_8 : decode cX9_lime 8 = .ok (.astore_n 2, 1) := by decide +kernel
theorem dX9_lime_9 : decode cX9_lime 9 = .ok (.aload_n 2, 1) := by decide +kernel
theorem dX9_lime_10 : decode cX9_lime 10 = .ok (.invokevirtual 82, 3) := by decide +kernel
theorem dX9_lime_13 : decode cX9_lime 13 = .ok (.aload_n 2, 1) := by decide +kernel
theorem dX9_lime_14 : decode cX9_lime 14 = .ok (.getfield 79, 3) := by decide +kernel
theorem dX9_lime_17 : decode cX9_lime 17 = .ok (.ireturn, 1) := by decide +kernel
theorem dX9_hours_0 : decode cX9_hours 0 = .ok (.iload_n 1, 1) := by decide +kernel
theorem dX9_hours_1 : decode cX9_hours 1 = .ok (.ifCond .lt 14, 3) := by decide +kernel
theorem dX9_hours_4 : decode cX9_hours 4 = .ok (.iload_n 1, 1) := by decide +kernel
theorem dX9_hours_5 : decode cX9_hours 5 = .ok (.sipush 10000, 3) := by decide +kernel
theorem dX9_hours_8 : decode cX9_hours 8 = .ok (.if_icmp .gt 7, 3) := by decide +kernel
theorem dX9_hours_11 : decode cX9_hours 11 = .ok (.iconst 1, 1) := by decide +kernel
theorem dX9_hours_12 : decode cX9_hours 12 = .ok (.goto 4, 3) := by decide +kernel
theorem dX9_hours_15 : decode cX9_hours 15 = .ok (.iconst 0, 1) := by decide +kernel
theorem dX9_hours_16 : decode cX9_hours 16 = .ok (.invokestatic 71, 3) := by decide +kernel
theorem dX9_hours_19 : decode cX9_hours 19 = .ok (.aload_n 0, 1) := by decide +kernel
theorem dX9_hours_20 : decode cX9_hours 20 = .ok (.getfield 10, 3) := by decide +kernel
theorem dX9_hours_23 : decode cX9_hours 23 = .ok (.iload_n 1, 1) := by decide +kernel
theorem dX9_hours_24 : decode cX9_hours 24 = .ok (.invokevirtual 85, 3) := by decide +kernel
theorem dX9_hours_27 : decode cX9_hours 27 = .ok (.aload_n 0, 1) := by decide +kernel
theorem dX9_hours_28 : decode cX9_hours 28 = .ok (.getfield 10, 3) := by decide +kernel
theorem dX9_hours_31 : decode cX9_hours 31 = .ok (.getfield 89, 3) := by decide +kernel
theorem dX9_hours_34 : decode cX9_hours 34 = .ok (.ireturn, 1) := by decide +kernel
theorem dX9_cloth_0 : decode cX9_cloth 0 = .ok (.aload_n 0, 1) := by decide +kernel
theorem dX9_cloth_1 : decode cX9_cloth 1 = .ok (.getfield 92, 3) := by decide +kernel
theorem dX9_cloth_4 : decode cX9_cloth 4 = .ok (.ifCond .lt 26, 3) := by decide +kernel
theorem dX9_cloth_7 : decode cX9_cloth 7 = .ok (.aload_n 0, 1) := by decide +kernel
theorem dX9_cloth_8 : decode cX9_cloth 8 = .ok (.getfield 92, 3) := by decide +kernel
theorem dX9_cloth_11 : decode cX9_cloth 11 = .ok (.aload_n 0, 1) := by decide +kernel
theorem dX9_cloth_12 : decode cX9_cloth 12 = .ok (.getfield 18, 3) := by decide +kernel
theorem dX9_cloth_15 : decode cX9_cloth 15 = .ok (.arraylength, 1) := by decide +kernel
theorem dX9_cloth_16 : decode cX9_cloth 16 = .ok (.if_icmp .ge 14, 3) := by decide +kernel
theorem dX9_cloth_19 : decode cX9_cloth 19 = .ok (.iload_n 1, 1) := by decide +kernel
theorem dX9_cloth_20 : decode cX9_cloth 20 = .ok (.iconst 1, 1) := by decide +kernel
theorem dX9_cloth_21 : decode cX9_cloth 21 = .ok (.if_icmp .lt 9, 3) := by decide +kernel
theorem dX9_cloth_24 : decode cX9_cloth 24 = .ok (.iload_n 1, 1) := by decide +kernel
theorem dX9_cloth_25 : decode cX9_cloth 25 = .ok (.bipush 50, 2) := by decide +kernel
theorem dX9_cloth_27 : decode cX9_cloth 27 = .ok (.if_icmp .le 5, 3) := by decide +kernel
theorem dX9_cloth_30 : decode cX9_cloth 30 = .ok (.iconst (-1), 1) := by decide +kernel
theorem dX9_cloth_31 : decode cX9_cloth 31 = .ok (.ireturn, 1) := by decide +kernel
theorem dX9_cloth_32 : decode cX9_cloth 32 = .ok (.aload_n 0, 1) := by decide +kernel
theorem dX9_cloth_33 : decode cX9_cloth 33 = .ok (.getfield 18, 3) := by decide +kernel
theorem dX9_cloth_36 : decode cX9_cloth 36 = .ok (.aload_n 0, 1) := by decide +kernel
theorem dX9_cloth_37 : decode cX9_cloth 37 = .ok (.getfield 92, 3) := by decide +kernel
theorem dX9_cloth_40 : decode cX9_cloth 40 = .ok (.new 16, 3) := by decide +kernel
theorem dX9_cloth_43 : decode cX9_cloth 43 = .ok (.dup, 1) := by decide +kernel
theorem dX9_cloth_44 : decode cX9_cloth 44 = .ok (.aload_n 0, 1) := by decide +kernel
theorem dX9_cloth_45 : decode cX9_cloth 45 = .ok (.getfield 92, 3) := by decide +kernel
theorem dX9_cloth_48 : decode cX9_cloth 48 = .ok (.iload_n 1, 1) := by decide +kernel
theorem dX9_cloth_49 : decode cX9_cloth 49 = .ok (.invokespecial 95, 3) := by decide +kernel
theorem dX9_cloth_52 : decode cX9_cloth 52 = .ok (.aastore, 1) := by decide +kernel
theorem dX9_cloth_53 : decode cX9_cloth 53 = .ok (.aload_n 0, 1) := by decide +kernel
theorem dX9_cloth_54 : decode cX9_cloth 54 = .ok (.dup, 1) := by decide +kernel
theorem dX9_cloth_55 : decode cX9_cloth 55 = .ok (.getfield 92, 3) := by decide +kernel
theorem dX9_cloth_58 : decode cX9_cloth 58 = .ok (.iconst 1, 1) := by decide +kernel
theorem dX9_cloth_59 : decode cX9_cloth 59 = .ok (.iadd, 1) := by decide +kernel
theorem dX9_cloth_60 : decode cX9_cloth 60 = .ok (.putfield 92, 3) := by decide +kernel
theorem dX9_cloth_63 : decode cX9_cloth 63 = .ok (.aload_n 0, 1) := by decide +kernel
theorem dX9_cloth_64 : decode cX9_cloth 64 = .ok (.getfield 92, 3) := by decide +kernel
theorem dX9_cloth_67 : decode cX9_cloth 67 = .ok (.iconst 1, 1) := by decide +kernel
theorem dX9_cloth_68 : decode cX9_cloth 68 = .ok (.isub, 1) := by decide +kernel
theorem dX9_cloth_69 : decode cX9_cloth 69 = .ok (.ireturn, 1) := by decide +kernel
theorem dX9_dip_0 : decode cX9_dip 0 = .ok (.aload_n 0, 1) := by decide +kernel
theorem dX9_dip_1 : decode cX9_dip 1 = .ok (.iload_n 1, 1) := by decide +kernel
theorem dX9_dip_2 : decode cX9_dip 2 = .ok (.invokevirtual 98, 3) := by decide +kernel
theorem dX9_dip_5 : decode cX9_dip 5 = .ok (.astore 4, 2) := by decide +kernel
theorem dX9_dip_7 : decode cX9_dip 7 = .ok (.aload_n 0, 1) := by decide +kernel
theorem dX9_dip_8 : decode cX9_dip 8 = .ok (.getfield 10, 3) := by decide +kernel
theorem dX9_dip_11 : decode cX9_dip 11 = .ok (.iload_n 2, 1) := by decide +kernel
theorem dX9_dip_12 : decode cX9_dip 12 = .ok (.invokevirtual 57, 3) := by decide +kernel
theorem dX9_dip_15 : decode cX9_dip 15 = .ok (.astore 5, 2) := by decide +kernel
theorem dX9_dip_17 : decode cX9_dip 17 = .ok (.iload_n 3, 1) := by decide +kernel
theorem dX9_dip_18 : decode cX9_dip 18 = .ok (.iconst 1, 1) := by decide +kernel
theorem dX9_dip_19 : decode cX9_dip 19 = .ok (.if_icmp .lt 13, 3) := by decide +kernel
theorem dX9_dip_22 : decode cX9_dip 22 = .ok (.iload_n 3, 1) := by decide +kernel
theorem dX9_dip_23 : decode cX9_dip 23 = .ok (.bipush 20, 2) := by decide +kernel
theorem dX9_dip_25 : decode cX9_dip 25 = .ok (.if_icmp .gt 7, 3) := by decide +kernel
theorem dX9_dip_28 : decode cX9_dip 28 = .ok (.iconst 1, 1) := by decide +kernel
theorem dX9_dip_29 : decode cX9_dip 29 = .ok (.goto 4, 3) := by decide +kernel
theorem dX9_dip_32 : decode cX9_dip 32 = .ok (.iconst 0, 1) := by decide +kernel
theorem dX9_dip_33 : decode cX9_dip 33 = .ok (.invokestatic 71, 3) := by decide +kernel
theorem dX9_dip_36 : decode cX9_dip 36 = .ok (.aload 5, 2) := by decide +kernel
theorem dX9_dip_38 : decode cX9_dip 38 = .ok (.getfield 79, 3) := by decide +kernel
theorem dX9_dip_41 : decode cX9_dip 41 = .ok (.iconst 2, 1) := by decide +kernel
theorem dX9_dip_42 : decode cX9_dip 42 = .ok (.if_icmp .eq 11, 3) := by decide +kernel
theorem dX9_dip_45 : decode cX9_dip 45 = .ok (.aload 4, 2) := by decide +kernel
theorem dX9_dip_47 : decode cX9_dip 47 = .ok (.getfield 102, 3) := by decide +kernel
theorem dX9_dip_50 : decode cX9_dip 50 = .ok (.ifCond .eq 5, 3) := by decide +kernel
theorem dX9_dip_53 : decode cX9_dip 53 = .ok (.iconst (-1), 1) := by decide +kernel
theorem dX9_dip_54 : decode cX9_dip 54 = .ok (.ireturn, 1) := by decide +kernel
theorem dX9_dip_55 : decode cX9_dip 55 = .ok (.aload 5, 2) := by decide +kernel
theorem dX9_dip_57 : decode cX9_dip 57 = .ok (.aload 4, 2) := by decide +kernel
theorem dX9_dip_59 : decode cX9_dip 59 = .ok (.iload_n 3, 1) := by decide +kernel
theorem dX9_dip_60 : decode cX9_dip 60 = .ok (.invokevirtual 106, 3) := by decide +kernel
theorem dX9_dip_63 : decode cX9_dip 63 = .ok (.istore 6, 2) := by decide +kernel
theorem dX9_dip_65 : decode cX9_dip 65 = .ok (.aload_n 0, 1) := by decide +kernel
theorem dX9_dip_66 : decode cX9_dip 66 = .ok (.getfield 10, 3) := by decide +kernel
theorem dX9_dip_69 : decode cX9_dip 69 = .ok (.aload 5, 2) := by decide +kernel
theorem dX9_dip_71 : decode cX9_dip 71 = .ok (.aload 4, 2) := by decide +kernel
theorem dX9_dip_73 : decode cX9_dip 73 = .ok (.iload_n 3, 1) := by decide +kernel
