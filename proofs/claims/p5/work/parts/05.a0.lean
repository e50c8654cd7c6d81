theorem dX0_init_0 : decode cX0_init 0 = .ok (.aload_n 0, 1) := by decide +kernel
theorem dX0_init_1 : decode cX0_init 1 = .ok (.invokespecial 3, 3) := by decide +kernel
theorem dX0_init_4 : decode cX0_init 4 = .ok (.aload_n 0, 1) := by decide +kernel
theorem dX0_init_5 : decode cX0_init 5 = .ok (.iconst (-1), 1) := by decide +kernel
theorem dX0_init_6 : decode cX0_init 6 = .ok (.putfield 9, 3) := by decide +kernel
theorem dX0_init_9 : decode cX0_init 9 = .ok (.aload_n 0, 1) := by decide +kernel
theorem dX0_init_10 : decode cX0_init 10 = .ok (.iload_n 1, 1) := by decide +kernel
theorem dX0_init_11 : decode cX0_init 11 = .ok (.putfield 15, 3) := by decide +kernel
theorem dX0_init_14 : decode cX0_init 14 = .ok (.aload_n 0, 1) := by decide +kernel
theorem dX0_init_15 : decode cX0_init 15 = .ok (.iload_n 2, 1) := by decide +kernel
theorem dX0_init_16 : decode cX0_init 16 = .ok (.putfield 18, 3) := by decide +kernel
theorem dX0_init_19 : decode cX0_init 19 = .ok (.return_, 1) := by decide +kernel
theorem dX0_shade_0 : decode cX0_shade 0 = .ok (.aload_n 0, 1) := by decide +kernel
theorem dX0_shade_1 : decode cX0_shade 1 = .ok (.getfield 18, 3) := by decide +kernel
theorem dX0_shade_4 : decode cX0_shade 4 = .ok (.iconst 1, 1) := by decide +kernel
theorem dX0_shade_5 : decode cX0_shade 5 = .ok (.if_icmp .ge 7, 3) := by decide +kernel
theorem dX0_shade_8 : decode cX0_shade 8 = .ok (.iconst 0, 1) := by decide +kernel
theorem dX0_shade_9 : decode cX0_shade 9 = .ok (.goto 12, 3) := by decide +kernel
theorem dX0_shade_12 : decode cX0_shade 12 = .ok (.aload_n 0, 1) := by decide +kernel
theorem dX0_shade_13 : decode cX0_shade 13 = .ok (.getfield 21, 3) := by decide +kernel
theorem dX0_shade_16 : decode cX0_shade 16 = .ok (.aload_n 0, 1) := by decide +kernel
theorem dX0_shade_17 : decode cX0_shade 17 = .ok (.getfield 18, 3) := by decide +kernel
theorem dX0_shade_20 : decode cX0_shade 20 = .ok (.idiv, 1) := by decide +kernel
theorem dX0_shade_21 : decode cX0_shade 21 = .ok (.ireturn, 1) := by decide +kernel
theorem dX0_room_0 : decode cX0_room 0 = .ok (.sipush 200, 3) := by decide +kernel
theorem dX0_room_3 : decode cX0_room 3 = .ok (.aload_n 0, 1) := by decide +kernel
theorem dX0_room_4 : decode cX0_room 4 = .ok (.getfield 18, 3) := by decide +kernel
theorem dX0_room_7 : decode cX0_room 7 = .ok (.imul, 1) := by decide +kernel
theorem dX0_room_8 : decode cX0_room 8 = .ok (.aload_n 0, 1) := by decide +kernel
theorem dX0_room_9 : decode cX0_room 9 = .ok (.getfield 24, 3) := by decide +kernel
theorem dX0_room_12 : decode cX0_room 12 = .ok (.isub, 1) := by decide +kernel
theorem dX0_room_13 : decode cX0_room 13 = .ok (.aload_n 0, 1) := by decide +kernel
theorem dX0_room_14 : decode cX0_room 14 = .ok (.getfield 21, 3) := by decide +kernel
theorem dX0_room_17 : decode cX0_room 17 = .ok (.isub, 1) := by decide +kernel
theorem dX0_room_18 : decode cX0_room 18 = .ok (.ireturn, 1) := by decide +kernel
theorem dX0_loseByAir_0 : decode cX0_loseByAir 0 = .ok (.aload_n 0, 1) := by decide +kernel
theorem dX0_loseByAir_1 : decode cX0_loseByAir 1 = .ok (.getfield 24, 3) := by decide +kernel
theorem dX0_loseByAir_4 : decode cX0_loseByAir 4 = .ok (.bipush 8, 2) := by decide +kernel
theorem dX0_loseByAir_6 : decode cX0_loseByAir 6 = .ok (.idiv, 1) := by decide +kernel
theorem dX0_loseByAir_7 : decode cX0_loseByAir 7 = .ok (.istore_n 1, 1) := by decide +kernel
theorem dX0_loseByAir_8 : decode cX0_loseByAir 8 = .ok (.aload_n 0, 1) := by decide +kernel
theorem dX0_loseByAir_9 : decode cX0_loseByAir 9 = .ok (.dup, 1) := by decide +kernel
theorem dX0_loseByAir_10 : decode cX0_loseByAir 10 = .ok (.getfield 21, 3) := by decide +kernel
theorem dX0_loseByAir_13 : decode cX0_loseByAir 13 = .ok (.aload_n 0, 1) := by decide +kernel
theorem dX0_loseByAir_14 : decode cX0_loseByAir 14 = .ok (.getfield 24, 3) := by decide +kernel
theorem dX0_loseByAir_17 : decode cX0_loseByAir 17 = .ok (.iload_n 1, 1) := by decide +kernel
theorem dX0_loseByAir_18 : decode cX0_loseByAir 18 = .ok (.isub, 1) := by decide +kernel
theorem dX0_loseByAir_19 : decode cX0_loseByAir 19 = .ok (.iadd, 1) := by decide +kernel
theorem dX0_loseByAir_20 : decode cX0_loseByAir 20 = .ok (.putfield 21, 3) := by decide +kernel
theorem dX0_loseByAir_23 : decode cX0_loseByAir 23 = .ok (.aload_n 0, 1) := by decide +kernel
theorem dX0_loseByAir_24 : decode cX0_loseByAir 24 = .ok (.iconst 0, 1) := by decide +kernel
theorem dX0_loseByAir_25 : decode cX0_loseByAir 25 = .ok (.putfield 24, 3) := by decide +kernel
theorem dX0_loseByAir_28 : decode cX0_loseByAir 28 = .ok (.iload_n 1, 1) := by decide +kernel
theorem dX0_loseByAir_29 : decode cX0_loseByAir 29 = .ok (.ireturn, 1) := by decide +kernel
theorem dX0_loseByWash_0 : decode cX0_loseByWash 0 = .ok (.aload_n 0, 1) := by decide +kernel
theorem dX0_loseByWash_1 : decode cX0_loseByWash 1 = .ok (.getfield 21, 3) := by decide +kernel
theorem dX0_loseByWash_4 : decode cX0_loseByWash 4 = .ok (.bipush 20, 2) := by decide +kernel
theorem dX0_loseByWash_6 : decode cX0_loseByWash 6 = .ok (.idiv, 1) := by decide +kernel
theorem dX0_loseByWash_7 : decode cX0_loseByWash 7 = .ok (.istore_n 1, 1) := by decide +kernel
theorem dX0_loseByWash_8 : decode cX0_loseByWash 8 = .ok (.aload_n 0, 1) := by decide +kernel
theorem dX0_loseByWash_9 : decode cX0_loseByWash 9 = .ok (.getfield 24, 3) := by decide +kernel
theorem dX0_loseByWash_12 : decode cX0_loseByWash 12 = .ok (.iload_n 1, 1) := by decide +kernel
theorem dX0_loseByWash_13 : decode cX0_loseByWash 13 = .ok (.iadd, 1) := by decide +kernel
theorem dX0_loseByWash_14 : decode cX0_loseByWash 14 = .ok (.istore_n 2, 1) := by decide +kernel
theorem dX0_loseByWash_15 : decode cX0_loseByWash 15 = .ok (.aload_n 0, 1) := by decide +kernel
theorem dX0_loseByWash_16 : decode cX0_loseByWash 16 = .ok (.dup, 1) := by decide +kernel
theorem dX0_loseByWash_17 : decode cX0_loseByWash 17 = .ok (.getfield 21, 3) := by decide +kernel
theorem dX0_loseByWash_20 : decode cX0_loseByWash 20 = .ok (.iload_n 1, 1) := by decide +kernel
theorem dX0_loseByWash_21 : decode cX0_loseByWash 21 = .ok (.isub, 1) := by decide +kernel
theorem dX0_loseByWash_22 : decode cX0_loseByWash 22 = .ok (.putfield 21, 3) := by decide +kernel
theorem dX0_loseByWash_25 : decode cX0_loseByWash 25 = .ok (.aload_n 0, 1) := by decide +kernel
theorem dX0_loseByWash_26 : decode cX0_loseByWash 26 = .ok (.iconst 0, 1) := by decide +kernel
theorem dX0_loseByWash_27 : decode cX0_loseByWash 27 = .ok (.putfield 24, 3) := by decide +kernel
theorem dX0_loseByWash_30 : decode cX0_loseByWash 30 = .ok (.iload_n 2, 1) := by decide +kernel
theorem dX0_loseByWash_31 : decode cX0_loseByWash 31 = .ok (.ireturn, 1) := by decide +kernel
theorem dX0_hasSpan_0 : decode cX0_hasSpan 0 = .ok (.aload_n 0, 1) := by decide +kernel
theorem dX0_hasSpan_1 : decode cX0_hasSpan 1 = .ok (.getfield 27, 3) := by decide +kernel
theorem dX0_hasSpan_4 : decode cX0_hasSpan 4 = .ok (.ifCond .eq 15, 3) := by decide +kernel
theorem dX0_hasSpan_7 : decode cX0_hasSpan 7 = .ok (.iload_n 1, 1) := by decide +kernel
theorem dX0_hasSpan_8 : decode cX0_hasSpan 8 = .ok (.aload_n 0, 1) := by decide +kernel
theorem dX0_hasSpan_9 : decode cX0_hasSpan 9 = .ok (.getfield 9, 3) := by decide +kernel
theorem dX0_hasSpan_12 : decode cX0_hasSpan 12 = .ok (.if_icmp .lt 7, 3) := by decide +kernel
theorem dX0_hasSpan_15 : decode cX0_hasSpan 15 = .ok (.iconst 1, 1) := by decide +kernel
theorem dX0_hasSpan_16 : decode cX0_hasSpan 16 = .ok (.goto 4, 3) := by decide +kernel
theorem dX0_hasSpan_19 : decode cX0_hasSpan 19 = .ok (.iconst 0, 1) := by decide +kernel
theorem dX0_hasSpan_20 : decode cX0_hasSpan 20 = .ok (.ireturn, 1) := by decide +kernel
theorem dX0_leastShade_0 : decode cX0_leastShade 0 = .ok (.iconst 0, 1) := by decide +kernel
theorem dX0_leastShade_1 : decode cX0_leastShade 1 = .ok (.aload_n 0, 1) := by decide +kernel
theorem dX0_leastShade_2 : decode cX0_leastShade 2 = .ok (.invokevirtual 31, 3) := by decide +kernel
theorem dX0_leastShade_5 : decode cX0_leastShade 5 = .ok (.iconst 3, 1) := by decide +kernel
theorem dX0_leastShade_6 : decode cX0_leastShade 6 = .ok (.iload_n 1, 1) := by decide +kernel
theorem dX0_leastShade_7 : decode cX0_leastShade 7 = .ok (.aload_n 0, 1) := by decide +kernel
theorem dX0_leastShade_8 : decode cX0_leastShade 8 = .ok (.getfield 9, 3) := by decide +kernel
theorem dX0_leastShade_11 : decode cX0_leastShade 11 = .ok (.isub, 1) := by decide +kernel
theorem dX0_leastShade_12 : decode cX0_leastShade 12 = .ok (.imul, 1) := by decide +kernel
theorem dX0_leastShade_13 : decode cX0_leastShade 13 = .ok (.bipush 100, 2) := by decide +kernel
theorem dX0_leastShade_15 : decode cX0_leastShade 15 = .ok (.idiv, 1) := by decide +kernel
theorem dX0_leastShade_16 : decode cX0_leastShade 16 = .ok (.isub, 1) := by decide +kernel
theorem dX0_leastShade_17 : decode cX0_leastShade 17 = .ok (.invokestatic 35, 3) := by decide +kernel
theorem dX0_leastShade_20 : decode cX0_leastShade 20 = .ok (.ireturn, 1) := by decide +kernel
theorem dX0_greatestShade_0 : decode cX0_greatestShade 0 = .ok (.iconst 0, 1) := by decide +kernel
theorem dX0_greatestShade_1 : decode cX0_greatestShade 1 = .ok (.aload_n 0, 1) := by decide +kernel
theorem dX0_greatestShade_2 : decode cX0_greatestShade 2 = .ok (.invokevirtual 31, 3) := by decide +kernel
theorem dX0_greatestShade_5 : decode cX0_greatestShade 5 = .ok (.iload_n 1, 1) := by decide +kernel
theorem dX0_greatestShade_6 : decode cX0_greatestShade 6 = .ok (.aload_n 0, 1) := by decide +kernel
theorem dX0_greatestShade_7 : decode cX0_greatestShade 7 = .ok (.getfield 9, 3) := by decide +kernel
theorem dX0_greatestShade_10 : decode cX0_greatestShade 10 = .ok (.isub, 1) := by decide +kernel
theorem dX0_greatestShade_11 : decode cX0_greatestShade 11 = .ok (.bipush 100, 2) := by decide +kernel
theorem dX0_greatestShade_13 : decode cX0_greatestShade 13 = .ok (.idiv, 1) := by decide +kernel
theorem dX0_greatestShade_14 : decode cX0_greatestShade 14 = .ok (.isub, 1) := by decide +kernel
theorem dX0_greatestShade_15 : decode cX0_greatestShade 15 = .ok (.invokestatic 35, 3) := by decide +kernel
theorem dX0_greatestShade_18 : decode cX0_greatestShade 18 = .ok (.ireturn, 1) := by decide +kernel
theorem dX0_spanMeets_0 : decode cX0_spanMeets 0 = .ok (.aload_n 0, 1) := by decide +kernel
theorem dX0_spanMeets_1 : decode cX0_spanMeets 1 = .ok (.iload_n 2, 1) := by decide +kernel
theorem dX0_spanMeets_2 : decode cX0_spanMeets 2 = .ok (.invokevirtual 41, 3) := by decide +kernel
theorem dX0_spanMeets_5 : decode cX0_spanMeets 5 = .ok (.ifCond .eq 41, 3) := by decide +kernel
theorem dX0_spanMeets_8 : decode cX0_spanMeets 8 = .ok (.aload_n 1, 1) := by decide +kernel
theorem dX0_spanMeets_9 : decode cX0_spanMeets 9 = .ok (.iload_n 2, 1) := by decide +kernel
theorem dX0_spanMeets_10 : decode cX0_spanMeets 10 = .ok (.invokevirtual 41, 3) := by decide +kernel
theorem dX0_spanMeets_13 : decode cX0_spanMeets 13 = .ok (.ifCond .eq 33, 3) := by decide +kernel
theorem dX0_spanMeets_16 : decode cX0_spanMeets 16 = .ok (.aload_n 0, 1) := by decide +kernel
theorem dX0_spanMeets_17 : decode cX0_spanMeets 17 = .ok (.iload_n 2, 1) := by decide +kernel
theorem dX0_spanMeets_18 : decode cX0_spanMeets 18 = .ok (.invokevirtual 45, 3) := by decide +kernel
theorem dX0_spanMeets_21 : decode cX0_spanMeets 21 = .ok (.aload_n 1, 1) := by decide +kernel
theorem dX0_spanMeets_22 : decode cX0_spanMeets 22 = .ok (.iload_n 2, 1) := by decide +kernel
theorem dX0_spanMeets_23 : decode cX0_spanMeets 23 = .ok (.invokevirtual 49, 3) := by decide +kernel
theorem dX0_spanMeets_26 : decode cX0_spanMeets 26 = .ok (.if_icmp .gt 20, 3) := by decide +kernel
theorem dX0_spanMeets_29 : decode cX0_spanMeets 29 = .ok (.aload_n 1, 1) := by decide +kernel
theorem dX0_spanMeets_30 : decode cX0_spanMeets 30 = .ok (.iload_n 2, 1) := by decide +kernel
theorem dX0_spanMeets_31 : decode cX0_spanMeets 31 = .ok (.invokevirtual 45, 3) := by decide +kernel
theorem dX0_spanMeets_34 : decode cX0_spanMeets 34 = .ok (.aload_n 0, 1) := by decide +kernel
theorem dX0_spanMeets_35 : decode cX0_spanMeets 35 = .ok (.iload_n 2, 1) := by decide +kernel
theorem dX0_spanMeets_36 : decode cX0_spanMeets 36 = .ok (.invokevirtual 49, 3) := by decide +kernel
theorem dX0_spanMeets_39 : decode cX0_spanMeets 39 = .ok (.if_icmp .gt 7, 3) := by decide +kernel
theorem dX0_spanMeets_42 : decode cX0_spanMeets 42 = .ok (.iconst 1, 1) := by decide +kernel
theorem dX0_spanMeets_43 : decode cX0_spanMeets 43 = .ok (.goto 4, 3) := by decide +kernel
theorem dX0_spanMeets_46 : decode cX0_spanMeets 46 = .ok (.iconst 0, 1) := by decide +kernel
theorem dX0_spanMeets_47 : decode cX0_spanMeets 47 = .ok (.ireturn, 1) := by decide +kernel
theorem dX0_copyFrom_0 : decode cX0_copyFrom 0 = .ok (.aload_n 0, 1) := by decide +kernel
theorem dX0_copyFrom_1 : decode cX0_copyFrom 1 = .ok (.aload_n 1, 1) := by decide +kernel
theorem dX0_copyFrom_2 : decode cX0_copyFrom 2 = .ok (.getfield 18, 3) := by decide +kernel
theorem dX0_copyFrom_5 : decode cX0_copyFrom 5 = .ok (.putfield 18, 3) := by decide +kernel
theorem dX0_copyFrom_8 : decode cX0_copyFrom 8 = .ok (.aload_n 0, 1) := by decide +kernel
theorem dX0_copyFrom_9 : decode cX0_copyFrom 9 = .ok (.aload_n 1, 1) := by decide +kernel
theorem dX0_copyFrom_10 : decode cX0_copyFrom 10 = .ok (.getfield 24, 3) := by decide +kernel
theorem dX0_copyFrom_13 : decode cX0_copyFrom 13 = .ok (.putfield 24, 3) := by decide +kernel
theorem dX0_copyFrom_16 : decode cX0_copyFrom 16 = .ok (.aload_n 0, 1) := by decide +kernel
theorem dX0_copyFrom_17 : decode cX0_copyFrom 17 = .ok (.aload_n 1, 1) := by decide +kernel
theorem dX0_copyFrom_18 : decode cX0_copyFrom 18 = .ok (.getfield 21, 3) := by decide +kernel
theorem dX0_copyFrom_21 : decode cX0_copyFrom 21 = .ok (.putfield 21, 3) := by decide +kernel
theorem dX0_copyFrom_24 : decode cX0_copyFrom 24 = .ok (.return_, 1) := by decide +kernel
theorem dX1_init_0 : decode cX1_init 0 = .ok (.aload_n 0, 1) := by decide +kernel
theorem dX1_init_1 : decode cX1_init 1 = .ok (.invokespecial 3, 3) := by decide +kernel
theorem dX1_init_4 : decode cX1_init 4 = .ok (.aload_n 0, 1) := by decide +kernel
theorem dX1_init_5 : decode cX1_init 5 = .ok (.bipush 6, 2) := by decide +kernel
theorem dX1_init_7 : decode cX1_init 7 = .ok (.anewarray 9, 3) := by decide +kernel
theorem dX1_init_10 : decode cX1_init 10 = .ok (.putfield 11, 3) := by decide +kernel
theorem dX1_init_13 : decode cX1_init 13 = .ok (.aload_n 0, 1) := by decide +kernel
theorem dX1_init_14 : decode cX1_init 14 = .ok (.new 17, 3) := by decide +kernel
theorem dX1_init_17 : decode cX1_init 17 = .ok (.dup, 1) := by decide +kernel
theorem dX1_init_18 : decode cX1_init 18 = .ok (.iconst 0, 1) := by decide +kernel
theorem dX1_init_19 : decode cX1_init 19 = .ok (.iconst 1, 1) := by decide +kernel
theorem dX1_init_20 : decode cX1_init 20 = .ok (.invokespecial 19, 3) := by decide +kernel
theorem dX1_init_23 : decode cX1_init 23 = .ok (.putfield 22, 3) := by decide +kernel
theorem dX1_init_26 : decode cX1_init 26 = .ok (.aload_n 0, 1) := by decide +kernel
theorem dX1_init_27 : decode cX1_init 27 = .ok (.iconst 3, 1) := by decide +kernel
theorem dX1_init_28 : decode cX1_init 28 = .ok (.newarray .int, 2) := by decide +kernel
theorem dX1_init_30 : decode cX1_init 30 = .ok (.putfield 26, 3) := by decide +kernel
theorem dX1_init_33 : decode cX1_init 33 = .ok (.aload_n 0, 1) := by decide +kernel
theorem dX1_init_34 : decode cX1_init 34 = .ok (.iconst 3, 1) := by decide +kernel
theorem dX1_init_35 : decode cX1_init 35 = .ok (.newarray .int, 2) := by decide +kernel
theorem dX1_init_37 : decode cX1_init 37 = .ok (.putfield 30, 3) := by decide +kernel
theorem dX1_init_40 : decode cX1_init 40 = .ok (.aload_n 0, 1) := by decide +kernel
theorem dX1_init_41 : decode cX1_init 41 = .ok (.iconst 3, 1) := by decide +kernel
theorem dX1_init_42 : decode cX1_init 42 = .ok (.newarray .int, 2) := by decide +kernel
theorem dX1_init_44 : decode cX1_init 44 = .ok (.putfield 33, 3) := by decide +kernel
theorem dX1_init_47 : decode cX1_init 47 = .ok (.aload_n 0, 1) := by decide +kernel
theorem dX1_init_48 : decode cX1_init 48 = .ok (.aload_n 1, 1) := by decide +kernel
theorem dX1_init_49 : decode cX1_init 49 = .ok (.putfield 36, 3) := by decide +kernel
theorem dX1_init_52 : decode cX1_init 52 = .ok (.iconst 0, 1) := by decide +kernel
theorem dX1_init_53 : decode cX1_init 53 = .ok (.istore_n 2, 1) := by decide +kernel
theorem dX1_init_54 : decode cX1_init 54 = .ok (.iload_n 2, 1) := by decide +kernel
theorem dX1_init_55 : decode cX1_init 55 = .ok (.aload_n 0, 1) := by decide +kernel
theorem dX1_init_56 : decode cX1_init 56 = .ok (.getfield 11, 3) := by decide +kernel
theorem dX1_init_59 : decode cX1_init 59 = .ok (.arraylength, 1) := by decide +kernel
theorem dX1_init_60 : decode cX1_init 60 = .ok (.if_icmp .ge 23, 3) := by decide +kernel
theorem dX1_init_63 : decode cX1_init 63 = .ok (.aload_n 0, 1) := by decide +kernel
theorem dX1_init_64 : decode cX1_init 64 = .ok (.getfield 11, 3) := by decide +kernel
theorem dX1_init_67 : decode cX1_init 67 = .ok (.iload_n 2, 1) := by decide +kernel
theorem dX1_init_68 : decode cX1_init 68 = .ok (.new 9, 3) := by decide +kernel
theorem dX1_init_71 : decode cX1_init 71 = .ok (.dup, 1) := by decide +kernel
theorem dX1_init_72 : decode cX1_init 72 = .ok (.iload_n 2, 1) := by decide +kernel
theorem dX1_init_73 : decode cX1_init 73 = .ok (.invokespecial 40, 3) := by decide +kernel
theorem dX1_init_76 : decode cX1_init 76 = .ok (.aastore, 1) := by decide +kernel
theorem dX1_init_77 : decode cX1_init 77 = .ok (.iinc 2 1, 3) := by decide +kernel
theorem dX1_init_80 : decode cX1_init 80 = .ok (.goto (-26), 3) := by decide +kernel
theorem dX1_init_83 : decode cX1_init 83 = .ok (.return_, 1) := by decide +kernel
theorem dX1_fewest_0 : decode cX1_fewest 0 = .ok (.aload_n 0, 1) := by decide +kernel
theorem dX1_fewest_1 : decode cX1_fewest 1 = .ok (.iload_n 2, 1) := by decide +kernel
theorem dX1_fewest_2 : decode cX1_fewest 2 = .ok (.putfield 43, 3) := by decide +kernel
theorem dX1_fewest_5 : decode cX1_fewest 5 = .ok (.aload_n 0, 1) := by decide +kernel
theorem dX1_fewest_6 : decode cX1_fewest 6 = .ok (.iload_n 3, 1) := by decide +kernel
theorem dX1_fewest_7 : decode cX1_fewest 7 = .ok (.putfield 47, 3) := by decide +kernel
theorem dX1_fewest_10 : decode cX1_fewest 10 = .ok (.iconst 0, 1) := by decide +kernel
theorem dX1_fewest_11 : decode cX1_fewest 11 = .ok (.istore 5, 2) := by decide +kernel
theorem dX1_fewest_13 : decode cX1_fewest 13 = .ok (.iload 5, 2) := by decide +kernel
theorem dX1_fewest_15 : decode cX1_fewest 15 = .ok (.aload_n 0, 1) := by decide +kernel
theorem dX1_fewest_16 : decode cX1_fewest 16 = .ok (.getfield 11, 3) := by decide +kernel
theorem dX1_fewest_19 : decode cX1_fewest 19 = .ok (.arraylength, 1) := by decide +kernel
theorem dX1_fewest_20 : decode cX1_fewest 20 = .ok (.if_icmp .ge 28, 3) := by decide +kernel
theorem dX1_fewest_23 : decode cX1_fewest 23 = .ok (.aload_n 0, 1) := by decide +kernel
theorem dX1_fewest_24 : decode cX1_fewest 24 = .ok (.getfield 11, 3) := by decide +kernel
theorem dX1_fewest_27 : decode cX1_fewest 27 = .ok (.iload 5, 2) := by decide +kernel
theorem dX1_fewest_29 : decode cX1_fewest 29 = .ok (.aaload, 1) := by decide +kernel
theorem dX1_fewest_30 : decode cX1_fewest 30 = .ok (.aload_n 0, 1) := by decide +kernel
theorem dX1_fewest_31 : decode cX1_fewest 31 = .ok (.getfield 36, 3) := by decide +kernel
theorem dX1_fewest_34 : decode cX1_fewest 34 = .ok (.iload 5, 2) := by decide +kernel
theorem dX1_fewest_36 : decode cX1_fewest 36 = .ok (.invokevirtual 50, 3) := by decide +kernel
theorem dX1_fewest_39 : decode cX1_fewest 39 = .ok (.invokevirtual 56, 3) := by decide +kernel
theorem dX1_fewest_42 : decode cX1_fewest 42 = .ok (.iinc 5 1, 3) := by decide +kernel
theorem dX1_fewest_45 : decode cX1_fewest 45 = .ok (.goto (-32), 3) := by decide +kernel
theorem dX1_fewest_48 : decode cX1_fewest 48 = .ok (.aload_n 0, 1) := by decide +kernel
theorem dX1_fewest_49 : decode cX1_fewest 49 = .ok (.getfield 22, 3) := by decide +kernel
theorem dX1_fewest_52 : decode cX1_fewest 52 = .ok (.aload_n 1, 1) := by decide +kernel
theorem dX1_fewest_53 : decode cX1_fewest 53 = .ok (.invokevirtual 60, 3) := by decide +kernel
theorem dX1_fewest_56 : decode cX1_fewest 56 = .ok (.iconst 0, 1) := by decide +kernel
theorem dX1_fewest_57 : decode cX1_fewest 57 = .ok (.istore 5, 2) := by decide +kernel
theorem dX1_fewest_59 : decode cX1_fewest 59 = .ok (.iload 5, 2) := by decide +kernel
theorem dX1_fewest_61 : decode cX1_fewest 61 = .ok (.iload 4, 2) := by decide +kernel
theorem dX1_fewest_63 : decode cX1_fewest 63 = .ok (.if_icmp .gt 34, 3) := by decide +kernel
theorem dX1_fewest_66 : decode cX1_fewest 66 = .ok (.iload 5, 2) := by decide +kernel
theorem dX1_fewest_68 : decode cX1_fewest 68 = .ok (.iconst 3, 1) := by decide +kernel
theorem dX1_fewest_69 : decode cX1_fewest 69 = .ok (.if_icmp .gt 28, 3) := by decide +kernel
theorem dX1_fewest_72 : decode cX1_fewest 72 = .ok (.aload_n 0, 1) := by decide +kernel
theorem dX1_fewest_73 : decode cX1_fewest 73 = .ok (.iconst 0, 1) := by decide +kernel
theorem dX1_fewest_74 : decode cX1_fewest 74 = .ok (.iload 5, 2) := by decide +kernel
theorem dX1_fewest_76 : decode cX1_fewest 76 = .ok (.invokevirtual 63, 3) := by decide +kernel
theorem dX1_fewest_79 : decode cX1_fewest 79 = .ok (.ifCond .eq 12, 3) := by decide +kernel
theorem dX1_fewest_82 : decode cX1_fewest 82 = .ok (.aload_n 0, 1) := by decide +kernel
theorem dX1_fewest_83 : decode cX1_fewest 83 = .ok (.iload 5, 2) := by decide +kernel
theorem dX1_fewest_85 : decode cX1_fewest 85 = .ok (.putfield 67, 3) := by decide +kernel
theorem dX1_fewest_88 : decode cX1_fewest 88 = .ok (.iload 5, 2) := by decide +kernel
theorem dX1_fewest_90 : decode cX1_fewest 90 = .ok (.ireturn, 1) := by decide +kernel
theorem dX1_fewest_91 : decode cX1_fewest 91 = .ok (.iinc 5 1, 3) := by decide +kernel
theorem dX1_fewest_94 : decode cX1_fewest 94 = .ok (.goto (-35), 3) := by decide +kernel
theorem dX1_fewest_97 : decode cX1_fewest 97 = .ok (.aload_n 0, 1) := by decide +kernel
theorem dX1_fewest_98 : decode cX1_fewest 98 = .ok (.iconst 0, 1) := by decide +kernel
theorem dX1_fewest_99 : decode cX1_fewest 99 = .ok (.putfield 67, 3) := by decide +kernel
theorem dX1_fewest_102 : decode cX1_fewest 102 = .ok (.iconst (-1), 1) := by decide +kernel
theorem dX1_fewest_103 : decode cX1_fewest 103 = .ok (.ireturn, 1) := by decide +kernel
theorem dX1_reaches_0 : decode cX1_reaches 0 = .ok (.iload_n 1, 1) := by decide +kernel
theorem dX1_reaches_1 : decode cX1_reaches 1 = .ok (.iload_n 2, 1) := by decide +kernel
theorem dX1_reaches_2 : decode cX1_reaches 2 = .ok (.if_icmp .ge 8, 3) := by decide +kernel
theorem dX1_reaches_5 : decode cX1_reaches 5 = .ok (.iload_n 1, 1) := by decide +kernel
theorem dX1_reaches_6 : decode cX1_reaches 6 = .ok (.iconst 3, 1) := by decide +kernel
theorem dX1_reaches_7 : decode cX1_reaches 7 = .ok (.if_icmp .lt 47, 3) := by decide +kernel
theorem dX1_reaches_10 : decode cX1_reaches 10 = .ok (.aload_n 0, 1) := by decide +kernel
theorem dX1_reaches_11 : decode cX1_reaches 11 = .ok (.getfield 22, 3) := by decide +kernel
theorem dX1_reaches_14 : decode cX1_reaches 14 = .ok (.getfield 70, 3) := by decide +kernel
theorem dX1_reaches_17 : decode cX1_reaches 17 = .ok (.ifCond .ne 35, 3) := by decide +kernel
theorem dX1_reaches_20 : decode cX1_reaches 20 = .ok (.aload_n 0, 1) := by decide +kernel
theorem dX1_reaches_21 : decode cX1_reaches 21 = .ok (.getfield 22, 3) := by decide +kernel
theorem dX1_reaches_24 : decode cX1_reaches 24 = .ok (.invokevirtual 73, 3) := by decide +kernel
theorem dX1_reaches_27 : decode cX1_reaches 27 = .ok (.aload_n 0, 1) := by decide +kernel
theorem dX1_reaches_28 : decode cX1_reaches 28 = .ok (.getfield 43, 3) := by decide +kernel
theorem dX1_reaches_31 : decode cX1_reaches 31 = .ok (.if_icmp .lt 21, 3) := by decide +kernel
theorem dX1_reaches_34 : decode cX1_reaches 34 = .ok (.aload_n 0, 1) := by decide +kernel
theorem dX1_reaches_35 : decode cX1_reaches 35 = .ok (.getfield 22, 3) := by decide +kernel
theorem dX1_reaches_38 : decode cX1_reaches 38 = .ok (.invokevirtual 73, 3) := by decide +kernel
theorem dX1_reaches_41 : decode cX1_reaches 41 = .ok (.aload_n 0, 1) := by decide +kernel
theorem dX1_reaches_42 : decode cX1_reaches 42 = .ok (.getfield 47, 3) := by decide +kernel
theorem dX1_reaches_45 : decode cX1_reaches 45 = .ok (.if_icmp .gt 7, 3) := by decide +kernel
theorem dX1_reaches_48 : decode cX1_reaches 48 = .ok (.iconst 1, 1) := by decide +kernel
theorem dX1_reaches_49 : decode cX1_reaches 49 = .ok (.goto 4, 3) := by decide +kernel
theorem dX1_reaches_52 : decode cX1_reaches 52 = .ok (.iconst 0, 1) := by decide +kernel
theorem dX1_reaches_53 : decode cX1_reaches 53 = .ok (.ireturn, 1) := by decide +kernel
theorem dX1_reaches_54 : decode cX1_reaches 54 = .ok (.iconst 0, 1) := by decide +kernel
theorem dX1_reaches_55 : decode cX1_reaches 55 = .ok (.istore_n 3, 1) := by decide +kernel
theorem dX1_reaches_56 : decode cX1_reaches 56 = .ok (.iload_n 3, 1) := by decide +kernel
theorem dX1_reaches_57 : decode cX1_reaches 57 = .ok (.aload_n 0, 1) := by decide +kernel
theorem dX1_reaches_58 : decode cX1_reaches 58 = .ok (.getfield 11, 3) := by decide +kernel
theorem dX1_reaches_61 : decode cX1_reaches 61 = .ok (.arraylength, 1) := by decide +kernel
theorem dX1_reaches_62 : decode cX1_reaches 62 = .ok (.if_icmp .ge 47, 3) := by decide +kernel
theorem dX1_reaches_65 : decode cX1_reaches 65 = .ok (.iconst 1, 1) := by decide +kernel
theorem dX1_reaches_66 : decode cX1_reaches 66 = .ok (.istore 4, 2) := by decide +kernel
theorem dX1_reaches_68 : decode cX1_reaches 68 = .ok (.iload 4, 2) := by decide +kernel
theorem dX1_reaches_70 : decode cX1_reaches 70 = .ok (.bipush 8, 2) := by decide +kernel
theorem dX1_reaches_72 : decode cX1_reaches 72 = .ok (.if_icmp .gt 31, 3) := by decide +kernel
theorem dX1_reaches_75 : decode cX1_reaches 75 = .ok (.aload_n 0, 1) := by decide +kernel
theorem dX1_reaches_76 : decode cX1_reaches 76 = .ok (.aload_n 0, 1) := by decide +kernel
theorem dX1_reaches_77 : decode cX1_reaches 77 = .ok (.getfield 11, 3) := by decide +kernel
theorem dX1_reaches_80 : decode cX1_reaches 80 = .ok (.iload_n 3, 1) := by decide +kernel
theorem dX1_reaches_81 : decode cX1_reaches 81 = .ok (.aaload, 1) := by decide +kernel
theorem dX1_reaches_82 : decode cX1_reaches 82 = .ok (.iload 4, 2) := by decide +kernel
theorem dX1_reaches_84 : decode cX1_reaches 84 = .ok (.iload_n 1, 1) := by decide +kernel
theorem dX1_reaches_85 : decode cX1_reaches 85 = .ok (.iload_n 2, 1) := by decide +kernel
theorem dX1_reaches_86 : decode cX1_reaches 86 = .ok (.invokevirtual 77, 3) := by decide +kernel
theorem dX1_reaches_89 : decode cX1_reaches 89 = .ok (.ifCond .eq 5, 3) := by decide +kernel
theorem dX1_reaches_92 : decode cX1_reaches 92 = .ok (.iconst 1, 1) := by decide +kernel
theorem dX1_reaches_93 : decode cX1_reaches 93 = .ok (.ireturn, 1) := by decide +kernel
theorem dX1_reaches_94 : decode cX1_reaches 94 = .ok (.iload 4, 2) := by decide +kernel
theorem dX1_reaches_96 : decode cX1_reaches 96 = .ok (.iconst 2, 1) := by decide +kernel
theorem dX1_reaches_97 : decode cX1_reaches 97 = .ok (.imul, 1) := by decide +kernel
theorem dX1_reaches_98 : decode cX1_reaches 98 = .ok (.istore 4, 2) := by decide +kernel
theorem dX1_reaches_100 : decode cX1_reaches 100 = .ok (.goto (-32), 3) := by decide +kernel
theorem dX1_reaches_103 : decode cX1_reaches 103 = .ok (.iinc 3 1, 3) := by decide +kernel
theorem dX1_reaches_106 : decode cX1_reaches 106 = .ok (.goto (-50), 3) := by decide +kernel
theorem dX1_reaches_109 : decode cX1_reaches 109 = .ok (.iconst 0, 1) := by decide +kernel
theorem dX1_reaches_110 : decode cX1_reaches 110 = .ok (.ireturn, 1) := by decide +kernel
theorem dX1_reachesBy_0 : decode cX1_reachesBy 0 = .ok (.aload_n 1, 1) := by decide +kernel
theorem dX1_reachesBy_1 : decode cX1_reachesBy 1 = .ok (.aload_n 0, 1) := by decide +kernel
theorem dX1_reachesBy_2 : decode cX1_reachesBy 2 = .ok (.getfield 22, 3) := by decide +kernel
theorem dX1_reachesBy_5 : decode cX1_reachesBy 5 = .ok (.iload_n 2, 1) := by decide +kernel
theorem dX1_reachesBy_6 : decode cX1_reachesBy 6 = .ok (.invokevirtual 81, 3) := by decide +kernel
theorem dX1_reachesBy_9 : decode cX1_reachesBy 9 = .ok (.istore 5, 2) := by decide +kernel
theorem dX1_reachesBy_11 : decode cX1_reachesBy 11 = .ok (.iload 5, 2) := by decide +kernel
theorem dX1_reachesBy_13 : decode cX1_reachesBy 13 = .ok (.iconst 1, 1) := by decide +kernel
theorem dX1_reachesBy_14 : decode cX1_reachesBy 14 = .ok (.if_icmp .lt 12, 3) := by decide +kernel
theorem dX1_reachesBy_17 : decode cX1_reachesBy 17 = .ok (.iload_n 3, 1) := by decide +kernel
theorem dX1_reachesBy_18 : decode cX1_reachesBy 18 = .ok (.ifCond .lt 8, 3) := by decide +kernel
theorem dX1_reachesBy_21 : decode cX1_reachesBy 21 = .ok (.iload_n 3, 1) := by decide +kernel
theorem dX1_reachesBy_22 : decode cX1_reachesBy 22 = .ok (.iconst 3, 1) := by decide +kernel
theorem dX1_reachesBy_23 : decode cX1_reachesBy 23 = .ok (.if_icmp .lt 5, 3) := by decide +kernel
theorem dX1_reachesBy_26 : decode cX1_reachesBy 26 = .ok (.iconst 0, 1) := by decide +kernel
theorem dX1_reachesBy_27 : decode cX1_reachesBy 27 = .ok (.ireturn, 1) := by decide +kernel
theorem dX1_reachesBy_28 : decode cX1_reachesBy 28 = .ok (.aload_n 1, 1) := by decide +kernel
theorem dX1_reachesBy_29 : decode cX1_reachesBy 29 = .ok (.getfield 85, 3) := by decide +kernel
theorem dX1_reachesBy_32 : decode cX1_reachesBy 32 = .ok (.istore 6, 2) := by decide +kernel
theorem dX1_reachesBy_34 : decode cX1_reachesBy 34 = .ok (.aload_n 1, 1) := by decide +kernel
theorem dX1_reachesBy_35 : decode cX1_reachesBy 35 = .ok (.getfield 88, 3) := by decide +kernel
theorem dX1_reachesBy_38 : decode cX1_reachesBy 38 = .ok (.istore 7, 2) := by decide +kernel
theorem dX1_reachesBy_40 : decode cX1_reachesBy 40 = .ok (.aload_n 1, 1) := by decide +kernel
theorem dX1_reachesBy_41 : decode cX1_reachesBy 41 = .ok (.getfield 91, 3) := by decide +kernel
theorem dX1_reachesBy_44 : decode cX1_reachesBy 44 = .ok (.istore 8, 2) := by decide +kernel
theorem dX1_reachesBy_46 : decode cX1_reachesBy 46 = .ok (.aload_n 1, 1) := by decide +kernel
theorem dX1_reachesBy_47 : decode cX1_reachesBy 47 = .ok (.getfield 94, 3) := by decide +kernel
theorem dX1_reachesBy_50 : decode cX1_reachesBy 50 = .ok (.istore 9, 2) := by decide +kernel
theorem dX1_reachesBy_52 : decode cX1_reachesBy 52 = .ok (.aload_n 0, 1) := by decide +kernel
theorem dX1_reachesBy_53 : decode cX1_reachesBy 53 = .ok (.getfield 22, 3) := by decide +kernel
theorem dX1_reachesBy_56 : decode cX1_reachesBy 56 = .ok (.getfield 70, 3) := by decide +kernel
theorem dX1_reachesBy_59 : decode cX1_reachesBy 59 = .ok (.istore 10, 2) := by decide +kernel
theorem dX1_reachesBy_61 : decode cX1_reachesBy 61 = .ok (.aload_n 0, 1) := by decide +kernel
theorem dX1_reachesBy_62 : decode cX1_reachesBy 62 = .ok (.getfield 22, 3) := by decide +kernel
theorem dX1_reachesBy_65 : decode cX1_reachesBy 65 = .ok (.getfield 97, 3) := by decide +kernel
theorem dX1_reachesBy_68 : decode cX1_reachesBy 68 = .ok (.istore 11, 2) := by decide +kernel
theorem dX1_reachesBy_70 : decode cX1_reachesBy 70 = .ok (.aload_n 1, 1) := by decide +kernel
theorem dX1_reachesBy_71 : decode cX1_reachesBy 71 = .ok (.aload_n 0, 1) := by decide +kernel
theorem dX1_reachesBy_72 : decode cX1_reachesBy 72 = .ok (.getfield 22, 3) := by decide +kernel
theorem dX1_reachesBy_75 : decode cX1_reachesBy 75 = .ok (.iload_n 2, 1) := by decide +kernel
theorem dX1_reachesBy_76 : decode cX1_reachesBy 76 = .ok (.iload 5, 2) := by decide +kernel
theorem dX1_reachesBy_78 : decode cX1_reachesBy 78 = .ok (.invokevirtual 100, 3) := by decide +kernel
theorem dX1_reachesBy_81 : decode cX1_reachesBy 81 = .ok (.aload_n 0, 1) := by decide +kernel
theorem dX1_reachesBy_82 : decode cX1_reachesBy 82 = .ok (.getfield 22, 3) := by decide +kernel
theorem dX1_reachesBy_85 : decode cX1_reachesBy 85 = .ok (.invokevirtual 104, 3) := by decide +kernel
theorem dX1_reachesBy_88 : decode cX1_reachesBy 88 = .ok (.pop, 1) := by decide +kernel
theorem dX1_reachesBy_89 : decode cX1_reachesBy 89 = .ok (.aload_n 0, 1) := by decide +kernel
theorem dX1_reachesBy_90 : decode cX1_reachesBy 90 = .ok (.getfield 26, 3) := by decide +kernel
theorem dX1_reachesBy_93 : decode cX1_reachesBy 93 = .ok (.iload_n 3, 1) := by decide +kernel
theorem dX1_reachesBy_94 : decode cX1_reachesBy 94 = .ok (.aload_n 1, 1) := by decide +kernel
theorem dX1_reachesBy_95 : decode cX1_reachesBy 95 = .ok (.getfield 107, 3) := by decide +kernel
theorem dX1_reachesBy_98 : decode cX1_reachesBy 98 = .ok (.iastore, 1) := by decide +kernel
theorem dX1_reachesBy_99 : decode cX1_reachesBy 99 = .ok (.aload_n 0, 1) := by decide +kernel
theorem dX1_reachesBy_100 : decode cX1_reachesBy 100 = .ok (.getfield 30, 3) := by decide +kernel
theorem dX1_reachesBy_103 : decode cX1_reachesBy 103 = .ok (.iload_n 3, 1) := by decide +kernel
theorem dX1_reachesBy_104 : decode cX1_reachesBy 104 = .ok (.iload_n 2, 1) := by decide +kernel
theorem dX1_reachesBy_105 : decode cX1_reachesBy 105 = .ok (.iastore, 1) := by decide +kernel
theorem dX1_reachesBy_106 : decode cX1_reachesBy 106 = .ok (.aload_n 0, 1) := by decide +kernel
theorem dX1_reachesBy_107 : decode cX1_reachesBy 107 = .ok (.getfield 33, 3) := by decide +kernel
theorem dX1_reachesBy_110 : decode cX1_reachesBy 110 = .ok (.iload_n 3, 1) := by decide +kernel
theorem dX1_reachesBy_111 : decode cX1_reachesBy 111 = .ok (.aload_n 0, 1) := by decide +kernel
theorem dX1_reachesBy_112 : decode cX1_reachesBy 112 = .ok (.getfield 22, 3) := by decide +kernel
theorem dX1_reachesBy_115 : decode cX1_reachesBy 115 = .ok (.invokevirtual 73, 3) := by decide +kernel
theorem dX1_reachesBy_118 : decode cX1_reachesBy 118 = .ok (.iastore, 1) := by decide +kernel
theorem dX1_reachesBy_119 : decode cX1_reachesBy 119 = .ok (.aload_n 0, 1) := by decide +kernel
theorem dX1_reachesBy_120 : decode cX1_reachesBy 120 = .ok (.getfield 33, 3) := by decide +kernel
theorem dX1_reachesBy_123 : decode cX1_reachesBy 123 = .ok (.iload_n 3, 1) := by decide +kernel
theorem dX1_reachesBy_124 : decode cX1_reachesBy 124 = .ok (.iaload, 1) := by decide +kernel
theorem dX1_reachesBy_125 : decode cX1_reachesBy 125 = .ok (.aload_n 0, 1) := by decide +kernel
theorem dX1_reachesBy_126 : decode cX1_reachesBy 126 = .ok (.getfield 47, 3) := by decide +kernel
theorem dX1_reachesBy_129 : decode cX1_reachesBy 129 = .ok (.if_icmp .gt 19, 3) := by decide +kernel
theorem dX1_reachesBy_132 : decode cX1_reachesBy 132 = .ok (.aload_n 0, 1) := by decide +kernel
theorem dX1_reachesBy_133 : decode cX1_reachesBy 133 = .ok (.iload_n 3, 1) := by decide +kernel
theorem dX1_reachesBy_134 : decode cX1_reachesBy 134 = .ok (.iconst 1, 1) := by decide +kernel
theorem dX1_reachesBy_135 : decode cX1_reachesBy 135 = .ok (.iadd, 1) := by decide +kernel
theorem dX1_reachesBy_136 : decode cX1_reachesBy 136 = .ok (.iload 4, 2) := by decide +kernel
theorem dX1_reachesBy_138 : decode cX1_reachesBy 138 = .ok (.invokevirtual 63, 3) := by decide +kernel
theorem dX1_reachesBy_141 : decode cX1_reachesBy 141 = .ok (.ifCond .eq 7, 3) := by decide +kernel
theorem dX1_reachesBy_144 : decode cX1_reachesBy 144 = .ok (.iconst 1, 1) := by decide +kernel
theorem dX1_reachesBy_145 : decode cX1_reachesBy 145 = .ok (.goto 4, 3) := by decide +kernel
theorem dX1_reachesBy_148 : decode cX1_reachesBy 148 = .ok (.iconst 0, 1) := by decide +kernel
theorem dX1_reachesBy_149 : decode cX1_reachesBy 149 = .ok (.istore 12, 2) := by decide +kernel
theorem dX1_reachesBy_151 : decode cX1_reachesBy 151 = .ok (.aload_n 1, 1) := by decide +kernel
theorem dX1_reachesBy_152 : decode cX1_reachesBy 152 = .ok (.iload 6, 2) := by decide +kernel
theorem dX1_reachesBy_154 : decode cX1_reachesBy 154 = .ok (.putfield 85, 3) := by decide +kernel
theorem dX1_reachesBy_157 : decode cX1_reachesBy 157 = .ok (.aload_n 1, 1) := by decide +kernel
theorem dX1_reachesBy_158 : decode cX1_reachesBy 158 = .ok (.iload 7, 2) := by decide +kernel
theorem dX1_reachesBy_160 : decode cX1_reachesBy 160 = .ok (.putfield 88, 3) := by decide +kernel
theorem dX1_reachesBy_163 : decode cX1_reachesBy 163 = .ok (.aload_n 1, 1) := by decide +kernel
theorem dX1_reachesBy_164 : decode cX1_reachesBy 164 = .ok (.iload 8, 2) := by decide +kernel
theorem dX1_reachesBy_166 : decode cX1_reachesBy 166 = .ok (.putfield 91, 3) := by decide +kernel
theorem dX1_reachesBy_169 : decode cX1_reachesBy 169 = .ok (.aload_n 1, 1) := by decide +kernel
theorem dX1_reachesBy_170 : decode cX1_reachesBy 170 = .ok (.iload 9, 2) := by decide +kernel
theorem dX1_reachesBy_172 : decode cX1_reachesBy 172 = .ok (.putfield 94, 3) := by decide +kernel
theorem dX1_reachesBy_175 : decode cX1_reachesBy 175 = .ok (.aload_n 0, 1) := by decide +kernel
theorem dX1_reachesBy_176 : decode cX1_reachesBy 176 = .ok (.getfield 22, 3) := by decide +kernel
theorem dX1_reachesBy_179 : decode cX1_reachesBy 179 = .ok (.iload 10, 2) := by decide +kernel
theorem dX1_reachesBy_181 : decode cX1_reachesBy 181 = .ok (.putfield 70, 3) := by decide +kernel
theorem dX1_reachesBy_184 : decode cX1_reachesBy 184 = .ok (.aload_n 0, 1) := by decide +kernel
theorem dX1_reachesBy_185 : decode cX1_reachesBy 185 = .ok (.getfield 22, 3) := by decide +kernel
theorem dX1_reachesBy_188 : decode cX1_reachesBy 188 = .ok (.iload 11, 2) := by decide +kernel
theorem dX1_reachesBy_190 : decode cX1_reachesBy 190 = .ok (.putfield 97, 3) := by decide +kernel
theorem dX1_reachesBy_193 : decode cX1_reachesBy 193 = .ok (.iload 12, 2) := by decide +kernel
theorem dX1_reachesBy_195 : decode cX1_reachesBy 195 = .ok (.ireturn, 1) := by decide +kernel
theorem dX2_init_0 : decode cX2_init 0 = .ok (.aload_n 0, 1) := by decide +kernel
theorem dX2_init_1 : decode cX2_init 1 = .ok (.invokespecial 3, 3) := by decide +kernel
theorem dX2_init_4 : decode cX2_init 4 = .ok (.aload_n 0, 1) := by decide +kernel
theorem dX2_init_5 : decode cX2_init 5 = .ok (.iconst (-1), 1) := by decide +kernel
theorem dX2_init_6 : decode cX2_init 6 = .ok (.putfield 9, 3) := by decide +kernel
theorem dX2_init_9 : decode cX2_init 9 = .ok (.aload_n 0, 1) := by decide +kernel
theorem dX2_init_10 : decode cX2_init 10 = .ok (.new 15, 3) := by decide +kernel
theorem dX2_init_13 : decode cX2_init 13 = .ok (.dup, 1) := by decide +kernel
theorem dX2_init_14 : decode cX2_init 14 = .ok (.aload_n 1, 1) := by decide +kernel
theorem dX2_init_15 : decode cX2_init 15 = .ok (.invokespecial 17, 3) := by decide +kernel
theorem dX2_init_18 : decode cX2_init 18 = .ok (.putfield 20, 3) := by decide +kernel
theorem dX2_init_21 : decode cX2_init 21 = .ok (.return_, 1) := by decide +kernel
theorem dX2_readRecipe_0 : decode cX2_readRecipe 0 = .ok (.aload_n 0, 1) := by decide +kernel
theorem dX2_readRecipe_1 : decode cX2_readRecipe 1 = .ok (.getfield 20, 3) := by decide +kernel
theorem dX2_readRecipe_4 : decode cX2_readRecipe 4 = .ok (.iload_n 1, 1) := by decide +kernel
theorem dX2_readRecipe_5 : decode cX2_readRecipe 5 = .ok (.invokevirtual 24, 3) := by decide +kernel
theorem dX2_readRecipe_8 : decode cX2_readRecipe 8 = .ok (.aload_n 0, 1) := by decide +kernel
theorem dX2_readRecipe_9 : decode cX2_readRecipe 9 = .ok (.iconst 0, 1) := by decide +kernel
theorem dX2_readRecipe_10 : decode cX2_readRecipe 10 = .ok (.putfield 28, 3) := by decide +kernel
theorem dX2_readRecipe_13 : decode cX2_readRecipe 13 = .ok (.aload_n 0, 1) := by decide +kernel
theorem dX2_readRecipe_14 : decode cX2_readRecipe 14 = .ok (.iconst (-1), 1) := by decide +kernel
theorem dX2_readRecipe_15 : decode cX2_readRecipe 15 = .ok (.putfield 9, 3) := by decide +kernel
theorem dX2_readRecipe_18 : decode cX2_readRecipe 18 = .ok (.aload_n 0, 1) := by decide +kernel
theorem dX2_readRecipe_19 : decode cX2_readRecipe 19 = .ok (.iconst 0, 1) := by decide +kernel
theorem dX2_readRecipe_20 : decode cX2_readRecipe 20 = .ok (.putfield 31, 3) := by decide +kernel
theorem dX2_readRecipe_23 : decode cX2_readRecipe 23 = .ok (.aload_n 0, 1) := by decide +kernel
theorem dX2_readRecipe_24 : decode cX2_readRecipe 24 = .ok (.iconst 0, 1) := by decide +kernel
theorem dX2_readRecipe_25 : decode cX2_readRecipe 25 = .ok (.invokevirtual 34, 3) := by decide +kernel
theorem dX2_readRecipe_28 : decode cX2_readRecipe 28 = .ok (.aload_n 0, 1) := by decide +kernel
theorem dX2_readRecipe_29 : decode cX2_readRecipe 29 = .ok (.iconst 0, 1) := by decide +kernel
theorem dX2_readRecipe_30 : decode cX2_readRecipe 30 = .ok (.invokevirtual 37, 3) := by decide +kernel
theorem dX2_readRecipe_33 : decode cX2_readRecipe 33 = .ok (.astore_n 2, 1) := by decide +kernel
theorem dX2_readRecipe_34 : decode cX2_readRecipe 34 = .ok (.aload_n 0, 1) := by decide +kernel
theorem dX2_readRecipe_35 : decode cX2_readRecipe 35 = .ok (.iconst 0, 1) := by decide +kernel
theorem dX2_readRecipe_36 : decode cX2_readRecipe 36 = .ok (.invokevirtual 41, 3) := by decide +kernel
theorem dX2_readRecipe_39 : decode cX2_readRecipe 39 = .ok (.aload_n 2, 1) := by decide +kernel
theorem dX2_readRecipe_40 : decode cX2_readRecipe 40 = .ok (.areturn, 1) := by decide +kernel
theorem dX2_readSteps_0 : decode cX2_readSteps 0 = .ok (.aconst_null, 1) := by decide +kernel
theorem dX2_readSteps_1 : decode cX2_readSteps 1 = .ok (.astore_n 2, 1) := by decide +kernel
theorem dX2_readSteps_2 : decode cX2_readSteps 2 = .ok (.aconst_null, 1) := by decide +kernel
theorem dX2_readSteps_3 : decode cX2_readSteps 3 = .ok (.astore_n 3, 1) := by decide +kernel
theorem dX2_readSteps_4 : decode cX2_readSteps 4 = .ok (.iconst 0, 1) := by decide +kernel
theorem dX2_readSteps_5 : decode cX2_readSteps 5 = .ok (.istore 4, 2) := by decide +kernel
theorem dX2_readSteps_7 : decode cX2_readSteps 7 = .ok (.iload 4, 2) := by decide +kernel
theorem dX2_readSteps_9 : decode cX2_readSteps 9 = .ok (.sipush 300, 3) := by decide +kernel
theorem dX2_readSteps_12 : decode cX2_readSteps 12 = .ok (.if_icmp .gt 59, 3) := by decide +kernel
theorem dX2_readSteps_15 : decode cX2_readSteps 15 = .ok (.aload_n 0, 1) := by decide +kernel
theorem dX2_readSteps_16 : decode cX2_readSteps 16 = .ok (.getfield 28, 3) := by decide +kernel
theorem dX2_readSteps_19 : decode cX2_readSteps 19 = .ok (.ifCond .ne 52, 3) := by decide +kernel
theorem dX2_readSteps_22 : decode cX2_readSteps 22 = .ok (.aload_n 0, 1) := by decide +kernel
theorem dX2_readSteps_23 : decode cX2_readSteps 23 = .ok (.getfield 44, 3) := by decide +kernel
theorem dX2_readSteps_26 : decode cX2_readSteps 26 = .ok (.iconst 1, 1) := by decide +kernel
theorem dX2_readSteps_27 : decode cX2_readSteps 27 = .ok (.if_icmp .lt 44, 3) := by decide +kernel
theorem dX2_readSteps_30 : decode cX2_readSteps 30 = .ok (.aload_n 0, 1) := by decide +kernel
theorem dX2_readSteps_31 : decode cX2_readSteps 31 = .ok (.getfield 44, 3) := by decide +kernel
theorem dX2_readSteps_34 : decode cX2_readSteps 34 = .ok (.bipush 12, 2) := by decide +kernel
theorem dX2_readSteps_36 : decode cX2_readSteps 36 = .ok (.if_icmp .gt 35, 3) := by decide +kernel
theorem dX2_readSteps_39 : decode cX2_readSteps 39 = .ok (.aload_n 0, 1) := by decide +kernel
theorem dX2_readSteps_40 : decode cX2_readSteps 40 = .ok (.iload_n 1, 1) := by decide +kernel
theorem dX2_readSteps_41 : decode cX2_readSteps 41 = .ok (.invokevirtual 47, 3) := by decide +kernel
theorem dX2_readSteps_44 : decode cX2_readSteps 44 = .ok (.astore 5, 2) := by decide +kernel
theorem dX2_readSteps_46 : decode cX2_readSteps 46 = .ok (.aload_n 3, 1) := by decide +kernel
theorem dX2_readSteps_47 : decode cX2_readSteps 47 = .ok (.ifnonnull 9, 3) := by decide +kernel
theorem dX2_readSteps_50 : decode cX2_readSteps 50 = .ok (.aload 5, 2) := by decide +kernel
theorem dX2_readSteps_52 : decode cX2_readSteps 52 = .ok (.astore_n 2, 1) := by decide +kernel
theorem dX2_readSteps_53 : decode cX2_readSteps 53 = .ok (.goto 9, 3) := by decide +kernel
theorem dX2_readSteps_56 : decode cX2_readSteps 56 = .ok (.aload_n 3, 1) := by decide +kernel
theorem dX2_readSteps_57 : decode cX2_readSteps 57 = .ok (.aload 5, 2) := by decide +kernel
theorem dX2_readSteps_59 : decode cX2_readSteps 59 = .ok (.putfield 50, 3) := by decide +kernel
theorem dX2_readSteps_62 : decode cX2_readSteps 62 = .ok (.aload 5, 2) := by decide +kernel
theorem dX2_readSteps_64 : decode cX2_readSteps 64 = .ok (.astore_n 3, 1) := by decide +kernel
theorem dX2_readSteps_65 : decode cX2_readSteps 65 = .ok (.iinc 4 1, 3) := by decide +kernel
theorem dX2_readSteps_68 : decode cX2_readSteps 68 = .ok (.goto (-61), 3) := by decide +kernel
theorem dX2_readSteps_71 : decode cX2_readSteps 71 = .ok (.aload_n 2, 1) := by decide +kernel
theorem dX2_readSteps_72 : decode cX2_readSteps 72 = .ok (.areturn, 1) := by decide +kernel
theorem dX2_readStep_0 : decode cX2_readStep 0 = .ok (.new 51, 3) := by decide +kernel
theorem dX2_readStep_3 : decode cX2_readStep 3 = .ok (.dup, 1) := by decide +kernel
theorem dX2_readStep_4 : decode cX2_readStep 4 = .ok (.aload_n 0, 1) := by decide +kernel
theorem dX2_readStep_5 : decode cX2_readStep 5 = .ok (.getfield 44, 3) := by decide +kernel
theorem dX2_readStep_8 : decode cX2_readStep 8 = .ok (.invokespecial 56, 3) := by decide +kernel
theorem dX2_readStep_11 : decode cX2_readStep 11 = .ok (.astore_n 2, 1) := by decide +kernel
theorem dX2_readStep_12 : decode cX2_readStep 12 = .ok (.aload_n 0, 1) := by decide +kernel
theorem dX2_readStep_13 : decode cX2_readStep 13 = .ok (.getfield 31, 3) := by decide +kernel
theorem dX2_readStep_16 : decode cX2_readStep 16 = .ok (.sipush 300, 3) := by decide +kernel
theorem dX2_readStep_19 : decode cX2_readStep 19 = .ok (.if_icmp .lt 10, 3) := by decide +kernel
theorem dX2_readStep_22 : decode cX2_readStep 22 = .ok (.aload_n 0, 1) := by decide +kernel
theorem dX2_readStep_23 : decode cX2_readStep 23 = .ok (.iconst 2, 1) := by decide +kernel
theorem dX2_readStep_24 : decode cX2_readStep 24 = .ok (.invokevirtual 58, 3) := by decide +kernel
theorem dX2_readStep_27 : decode cX2_readStep 27 = .ok (.aload_n 2, 1) := by decide +kernel
theorem dX2_readStep_28 : decode cX2_readStep 28 = .ok (.areturn, 1) := by decide +kernel
theorem dX2_readStep_29 : decode cX2_readStep 29 = .ok (.aload_n 0, 1) := by decide +kernel
theorem dX2_readStep_30 : decode cX2_readStep 30 = .ok (.dup, 1) := by decide +kernel
theorem dX2_readStep_31 : decode cX2_readStep 31 = .ok (.getfield 31, 3) := by decide +kernel
theorem dX2_readStep_34 : decode cX2_readStep 34 = .ok (.iconst 1, 1) := by decide +kernel
theorem dX2_readStep_35 : decode cX2_readStep 35 = .ok (.iadd, 1) := by decide +kernel
theorem dX2_readStep_36 : decode cX2_readStep 36 = .ok (.putfield 31, 3) := by decide +kernel
theorem dX2_readStep_39 : decode cX2_readStep 39 = .ok (.aload_n 0, 1) := by decide +kernel
theorem dX2_readStep_40 : decode cX2_readStep 40 = .ok (.aload_n 2, 1) := by decide +kernel
theorem dX2_readStep_41 : decode cX2_readStep 41 = .ok (.getfield 61, 3) := by decide +kernel
theorem dX2_readStep_44 : decode cX2_readStep 44 = .ok (.invokevirtual 41, 3) := by decide +kernel
theorem dX2_readStep_47 : decode cX2_readStep 47 = .ok (.aload_n 2, 1) := by decide +kernel
theorem dX2_readStep_48 : decode cX2_readStep 48 = .ok (.getfield 61, 3) := by decide +kernel
theorem dX2_readStep_51 : decode cX2_readStep 51 = .ok (.bipush 8, 2) := by decide +kernel
theorem dX2_readStep_53 : decode cX2_readStep 53 = .ok (.if_icmp .ge 17, 3) := by decide +kernel
theorem dX2_readStep_56 : decode cX2_readStep 56 = .ok (.aload_n 0, 1) := by decide +kernel
theorem dX2_readStep_57 : decode cX2_readStep 57 = .ok (.aload_n 2, 1) := by decide +kernel
theorem dX2_readStep_58 : decode cX2_readStep 58 = .ok (.invokevirtual 64, 3) := by decide +kernel
theorem dX2_readStep_61 : decode cX2_readStep 61 = .ok (.aload_n 0, 1) := by decide +kernel
theorem dX2_readStep_62 : decode cX2_readStep 62 = .ok (.bipush 59, 2) := by decide +kernel
theorem dX2_readStep_64 : decode cX2_readStep 64 = .ok (.invokevirtual 41, 3) := by decide +kernel
theorem dX2_readStep_67 : decode cX2_readStep 67 = .ok (.goto 9, 3) := by decide +kernel
theorem dX2_readStep_70 : decode cX2_readStep 70 = .ok (.aload_n 0, 1) := by decide +kernel
theorem dX2_readStep_71 : decode cX2_readStep 71 = .ok (.aload_n 2, 1) := by decide +kernel
theorem dX2_readStep_72 : decode cX2_readStep 72 = .ok (.iload_n 1, 1) := by decide +kernel
theorem dX2_readStep_73 : decode cX2_readStep 73 = .ok (.invokevirtual 68, 3) := by decide +kernel
theorem dX2_readStep_76 : decode cX2_readStep 76 = .ok (.aload_n 2, 1) := by decide +kernel
theorem dX2_readStep_77 : decode cX2_readStep 77 = .ok (.areturn, 1) := by decide +kernel
theorem dX2_readPlain_0 : decode cX2_readPlain 0 = .ok (.aload_n 1, 1) := by decide +kernel
theorem dX2_readPlain_1 : decode cX2_readPlain 1 = .ok (.getfield 61, 3) := by decide +kernel
theorem dX2_readPlain_4 : decode cX2_readPlain 4 = .ok (.tableswitch 135 1 7 #[44, 135, 135, 68, 83, 108, 121], 44) := by decide +kernel
theorem dX2_readPlain_48 : decode cX2_readPlain 48 = .ok (.aload_n 1, 1) := by decide +kernel
theorem dX2_readPlain_49 : decode cX2_readPlain 49 = .ok (.aload_n 0, 1) := by decide +kernel
theorem dX2_readPlain_50 : decode cX2_readPlain 50 = .ok (.iconst 0, 1) := by decide +kernel
theorem dX2_readPlain_51 : decode cX2_readPlain 51 = .ok (.iconst 5, 1) := by decide +kernel
theorem dX2_readPlain_52 : decode cX2_readPlain 52 = .ok (.invokevirtual 72, 3) := by decide +kernel
theorem dX2_readPlain_55 : decode cX2_readPlain 55 = .ok (.putfield 76, 3) := by decide +kernel
theorem dX2_readPlain_58 : decode cX2_readPlain 58 = .ok (.aload_n 1, 1) := by decide +kernel
theorem dX2_readPlain_59 : decode cX2_readPlain 59 = .ok (.aload_n 0, 1) := by decide +kernel
theorem dX2_readPlain_60 : decode cX2_readPlain 60 = .ok (.iconst 1, 1) := by decide +kernel
theorem dX2_readPlain_61 : decode cX2_readPlain 61 = .ok (.bipush 20, 2) := by decide +kernel
theorem dX2_readPlain_63 : decode cX2_readPlain 63 = .ok (.invokevirtual 72, 3) := by decide +kernel
theorem dX2_readPlain_66 : decode cX2_readPlain 66 = .ok (.putfield 79, 3) := by decide +kernel
theorem dX2_readPlain_69 : decode cX2_readPlain 69 = .ok (.goto 70, 3) := by decide +kernel
theorem dX2_readPlain_72 : decode cX2_readPlain 72 = .ok (.aload_n 1, 1) := by decide +kernel
theorem dX2_readPlain_73 : decode cX2_readPlain 73 = .ok (.aload_n 0, 1) := by decide +kernel
theorem dX2_readPlain_74 : decode cX2_readPlain 74 = .ok (.iconst 1, 1) := by decide +kernel
theorem dX2_readPlain_75 : decode cX2_readPlain 75 = .ok (.sipush 200, 3) := by decide +kernel
theorem dX2_readPlain_78 : decode cX2_readPlain 78 = .ok (.invokevirtual 72, 3) := by decide +kernel
theorem dX2_readPlain_81 : decode cX2_readPlain 81 = .ok (.putfield 79, 3) := by decide +kernel
theorem dX2_readPlain_84 : decode cX2_readPlain 84 = .ok (.goto 55, 3) := by decide +kernel
theorem dX2_readPlain_87 : decode cX2_readPlain 87 = .ok (.aload_n 1, 1) := by decide +kernel
theorem dX2_readPlain_88 : decode cX2_readPlain 88 = .ok (.aload_n 0, 1) := by decide +kernel
theorem dX2_readPlain_89 : decode cX2_readPlain 89 = .ok (.iconst 0, 1) := by decide +kernel
theorem dX2_readPlain_90 : decode cX2_readPlain 90 = .ok (.iconst 5, 1) := by decide +kernel
theorem dX2_readPlain_91 : decode cX2_readPlain 91 = .ok (.invokevirtual 72, 3) := by decide +kernel
theorem dX2_readPlain_94 : decode cX2_readPlain 94 = .ok (.putfield 76, 3) := by decide +kernel
theorem dX2_readPlain_97 : decode cX2_readPlain 97 = .ok (.aload_n 1, 1) := by decide +kernel
theorem dX2_readPlain_98 : decode cX2_readPlain 98 = .ok (.aload_n 0, 1) := by decide +kernel
theorem dX2_readPlain_99 : decode cX2_readPlain 99 = .ok (.iconst 1, 1) := by decide +kernel
theorem dX2_readPlain_100 : decode cX2_readPlain 100 = .ok (.sipush 1000, 3) := by decide +kernel
theorem dX2_readPlain_103 : decode cX2_readPlain 103 = .ok (.invokevirtual 72, 3) := by decide +kernel
theorem dX2_readPlain_106 : decode cX2_readPlain 106 = .ok (.putfield 79, 3) := by decide +kernel
theorem dX2_readPlain_109 : decode cX2_readPlain 109 = .ok (.goto 30, 3) := by decide +kernel
theorem dX2_readPlain_112 : decode cX2_readPlain 112 = .ok (.aload_n 1, 1) := by decide +kernel
theorem dX2_readPlain_113 : decode cX2_readPlain 113 = .ok (.aload_n 0, 1) := by decide +kernel
theorem dX2_readPlain_114 : decode cX2_readPlain 114 = .ok (.iconst 0, 1) := by decide +kernel
theorem dX2_readPlain_115 : decode cX2_readPlain 115 = .ok (.iconst 5, 1) := by decide +kernel
theorem dX2_readPlain_116 : decode cX2_readPlain 116 = .ok (.invokevirtual 72, 3) := by decide +kernel
theorem dX2_readPlain_119 : decode cX2_readPlain 119 = .ok (.putfield 76, 3) := by decide +kernel
theorem dX2_readPlain_122 : decode cX2_readPlain 122 = .ok (.goto 17, 3) := by decide +kernel
theorem dX2_readPlain_125 : decode cX2_readPlain 125 = .ok (.aload_n 1, 1) := by decide +kernel
theorem dX2_readPlain_126 : decode cX2_readPlain 126 = .ok (.aload_n 0, 1) := by decide +kernel
theorem dX2_readPlain_127 : decode cX2_readPlain 127 = .ok (.iconst 1, 1) := by decide +kernel
theorem dX2_readPlain_128 : decode cX2_readPlain 128 = .ok (.bipush 99, 2) := by decide +kernel
theorem dX2_readPlain_130 : decode cX2_readPlain 130 = .ok (.invokevirtual 72, 3) := by decide +kernel
theorem dX2_readPlain_133 : decode cX2_readPlain 133 = .ok (.putfield 79, 3) := by decide +kernel
theorem dX2_readPlain_136 : decode cX2_readPlain 136 = .ok (.goto 3, 3) := by decide +kernel
theorem dX2_readPlain_139 : decode cX2_readPlain 139 = .ok (.return_, 1) := by decide +kernel
theorem dX2_readBuilt_0 : decode cX2_readBuilt 0 = .ok (.aload_n 1, 1) := by decide +kernel
theorem dX2_readBuilt_1 : decode cX2_readBuilt 1 = .ok (.getfield 61, 3) := by decide +kernel
theorem dX2_readBuilt_4 : decode cX2_readBuilt 4 = .ok (.tableswitch 116 8 10 #[28, 51, 75], 28) := by decide +kernel
theorem dX2_readBuilt_32 : decode cX2_readBuilt 32 = .ok (.aload_n 1, 1) := by decide +kernel
theorem dX2_readBuilt_33 : decode cX2_readBuilt 33 = .ok (.aload_n 0, 1) := by decide +kernel
theorem dX2_readBuilt_34 : decode cX2_readBuilt 34 = .ok (.iconst 0, 1) := by decide +kernel
theorem dX2_readBuilt_35 : decode cX2_readBuilt 35 = .ok (.bipush 50, 2) := by decide +kernel
theorem dX2_readBuilt_37 : decode cX2_readBuilt 37 = .ok (.invokevirtual 72, 3) := by decide +kernel
theorem dX2_readBuilt_40 : decode cX2_readBuilt 40 = .ok (.putfield 79, 3) := by decide +kernel
theorem dX2_readBuilt_43 : decode cX2_readBuilt 43 = .ok (.aload_n 1, 1) := by decide +kernel
theorem dX2_readBuilt_44 : decode cX2_readBuilt 44 = .ok (.aload_n 0, 1) := by decide +kernel
theorem dX2_readBuilt_45 : decode cX2_readBuilt 45 = .ok (.iload_n 2, 1) := by decide +kernel
theorem dX2_readBuilt_46 : decode cX2_readBuilt 46 = .ok (.invokevirtual 82, 3) := by decide +kernel
theorem dX2_readBuilt_49 : decode cX2_readBuilt 49 = .ok (.putfield 85, 3) := by decide +kernel
theorem dX2_readBuilt_52 : decode cX2_readBuilt 52 = .ok (.goto 106, 3) := by decide +kernel
theorem dX2_readBuilt_55 : decode cX2_readBuilt 55 = .ok (.aload_n 1, 1) := by decide +kernel
theorem dX2_readBuilt_56 : decode cX2_readBuilt 56 = .ok (.aload_n 0, 1) := by decide +kernel
theorem dX2_readBuilt_57 : decode cX2_readBuilt 57 = .ok (.iconst 0, 1) := by decide +kernel
theorem dX2_readBuilt_58 : decode cX2_readBuilt 58 = .ok (.sipush 200, 3) := by decide +kernel
theorem dX2_readBuilt_61 : decode cX2_readBuilt 61 = .ok (.invokevirtual 72, 3) := by decide +kernel
theorem dX2_readBuilt_64 : decode cX2_readBuilt 64 = .ok (.putfield 79, 3) := by decide +kernel
theorem dX2_readBuilt_67 : decode cX2_readBuilt 67 = .ok (.aload_n 1, 1) := by decide +kernel
theorem dX2_readBuilt_68 : decode cX2_readBuilt 68 = .ok (.aload_n 0, 1) := by decide +kernel
theorem dX2_readBuilt_69 : decode cX2_readBuilt 69 = .ok (.iload_n 2, 1) := by decide +kernel
theorem dX2_readBuilt_70 : decode cX2_readBuilt 70 = .ok (.invokevirtual 82, 3) := by decide +kernel
theorem dX2_readBuilt_73 : decode cX2_readBuilt 73 = .ok (.putfield 85, 3) := by decide +kernel
theorem dX2_readBuilt_76 : decode cX2_readBuilt 76 = .ok (.goto 82, 3) := by decide +kernel
theorem dX2_readBuilt_79 : decode cX2_readBuilt 79 = .ok (.aload_n 0, 1) := by decide +kernel
theorem dX2_readBuilt_80 : decode cX2_readBuilt 80 = .ok (.aload_n 1, 1) := by decide +kernel
theorem dX2_readBuilt_81 : decode cX2_readBuilt 81 = .ok (.invokevirtual 88, 3) := by decide +kernel
theorem dX2_readBuilt_84 : decode cX2_readBuilt 84 = .ok (.aload_n 1, 1) := by decide +kernel
theorem dX2_readBuilt_85 : decode cX2_readBuilt 85 = .ok (.aload_n 0, 1) := by decide +kernel
theorem dX2_readBuilt_86 : decode cX2_readBuilt 86 = .ok (.iload_n 2, 1) := by decide +kernel
theorem dX2_readBuilt_87 : decode cX2_readBuilt 87 = .ok (.invokevirtual 82, 3) := by decide +kernel
theorem dX2_readBuilt_90 : decode cX2_readBuilt 90 = .ok (.putfield 85, 3) := by decide +kernel
theorem dX2_readBuilt_93 : decode cX2_readBuilt 93 = .ok (.aload_n 0, 1) := by decide +kernel
theorem dX2_readBuilt_94 : decode cX2_readBuilt 94 = .ok (.getfield 44, 3) := by decide +kernel
theorem dX2_readBuilt_97 : decode cX2_readBuilt 97 = .ok (.bipush 13, 2) := by decide +kernel
theorem dX2_readBuilt_99 : decode cX2_readBuilt 99 = .ok (.if_icmp .ne 59, 3) := by decide +kernel
theorem dX2_readBuilt_102 : decode cX2_readBuilt 102 = .ok (.aload_n 0, 1) := by decide +kernel
theorem dX2_readBuilt_103 : decode cX2_readBuilt 103 = .ok (.bipush 13, 2) := by decide +kernel
theorem dX2_readBuilt_105 : decode cX2_readBuilt 105 = .ok (.invokevirtual 41, 3) := by decide +kernel
theorem dX2_readBuilt_108 : decode cX2_readBuilt 108 = .ok (.aload_n 1, 1) := by decide +kernel
theorem dX2_readBuilt_109 : decode cX2_readBuilt 109 = .ok (.aload_n 0, 1) := by decide +kernel
theorem dX2_readBuilt_110 : decode cX2_readBuilt 110 = .ok (.iload_n 2, 1) := by decide +kernel
theorem dX2_readBuilt_111 : decode cX2_readBuilt 111 = .ok (.invokevirtual 82, 3) := by decide +kernel
theorem dX2_readBuilt_114 : decode cX2_readBuilt 114 = .ok (.putfield 91, 3) := by decide +kernel
theorem dX2_readBuilt_117 : decode cX2_readBuilt 117 = .ok (.goto 41, 3) := by decide +kernel
theorem dX2_readBuilt_120 : decode cX2_readBuilt 120 = .ok (.aload_n 1, 1) := by decide +kernel
theorem dX2_readBuilt_121 : decode cX2_readBuilt 121 = .ok (.aload_n 0, 1) := by decide +kernel
theorem dX2_readBuilt_122 : decode cX2_readBuilt 122 = .ok (.iload_n 2, 1) := by decide +kernel
theorem dX2_readBuilt_123 : decode cX2_readBuilt 123 = .ok (.invokevirtual 82, 3) := by decide +kernel
theorem dX2_readBuilt_126 : decode cX2_readBuilt 126 = .ok (.putfield 85, 3) := by decide +kernel
theorem dX2_readBuilt_129 : decode cX2_readBuilt 129 = .ok (.aload_n 0, 1) := by decide +kernel
theorem dX2_readBuilt_130 : decode cX2_readBuilt 130 = .ok (.aload_n 1, 1) := by decide +kernel
theorem dX2_readBuilt_131 : decode cX2_readBuilt 131 = .ok (.getfield 61, 3) := by decide +kernel
theorem dX2_readBuilt_134 : decode cX2_readBuilt 134 = .ok (.bipush 11, 2) := by decide +kernel
theorem dX2_readBuilt_136 : decode cX2_readBuilt 136 = .ok (.if_icmp .ne 8, 3) := by decide +kernel
theorem dX2_readBuilt_139 : decode cX2_readBuilt 139 = .ok (.bipush 13, 2) := by decide +kernel
theorem dX2_readBuilt_141 : decode cX2_readBuilt 141 = .ok (.goto 5, 3) := by decide +kernel
theorem dX2_readBuilt_144 : decode cX2_readBuilt 144 = .ok (.bipush 14, 2) := by decide +kernel
theorem dX2_readBuilt_146 : decode cX2_readBuilt 146 = .ok (.invokevirtual 41, 3) := by decide +kernel
theorem dX2_readBuilt_149 : decode cX2_readBuilt 149 = .ok (.aload_n 1, 1) := by decide +kernel
theorem dX2_readBuilt_150 : decode cX2_readBuilt 150 = .ok (.aload_n 0, 1) := by decide +kernel
theorem dX2_readBuilt_151 : decode cX2_readBuilt 151 = .ok (.iload_n 2, 1) := by decide +kernel
theorem dX2_readBuilt_152 : decode cX2_readBuilt 152 = .ok (.invokevirtual 82, 3) := by decide +kernel
theorem dX2_readBuilt_155 : decode cX2_readBuilt 155 = .ok (.putfield 91, 3) := by decide +kernel
theorem dX2_readBuilt_158 : decode cX2_readBuilt 158 = .ok (.return_, 1) := by decide +kernel
theorem dX2_readBlock_0 : decode cX2_readBlock 0 = .ok (.aload_n 0, 1) := by decide +kernel
theorem dX2_readBlock_1 : decode cX2_readBlock 1 = .ok (.getfield 44, 3) := by decide +kernel
theorem dX2_readBlock_4 : decode cX2_readBlock 4 = .ok (.bipush 123, 2) := by decide +kernel
theorem dX2_readBlock_6 : decode cX2_readBlock 6 = .ok (.if_icmp .ne 14, 3) := by decide +kernel
theorem dX2_readBlock_9 : decode cX2_readBlock 9 = .ok (.iload_n 1, 1) := by decide +kernel
theorem dX2_readBlock_10 : decode cX2_readBlock 10 = .ok (.bipush 8, 2) := by decide +kernel
theorem dX2_readBlock_12 : decode cX2_readBlock 12 = .ok (.if_icmp .lt 8, 3) := by decide +kernel
theorem dX2_readBlock_15 : decode cX2_readBlock 15 = .ok (.aload_n 0, 1) := by decide +kernel
theorem dX2_readBlock_16 : decode cX2_readBlock 16 = .ok (.iconst 2, 1) := by decide +kernel
theorem dX2_readBlock_17 : decode cX2_readBlock 17 = .ok (.invokevirtual 58, 3) := by decide +kernel
theorem dX2_readBlock_20 : decode cX2_readBlock 20 = .ok (.aload_n 0, 1) := by decide +kernel
theorem dX2_readBlock_21 : decode cX2_readBlock 21 = .ok (.bipush 123, 2) := by decide +kernel
theorem dX2_readBlock_23 : decode cX2_readBlock 23 = .ok (.invokevirtual 41, 3) := by decide +kernel
theorem dX2_readBlock_26 : decode cX2_readBlock 26 = .ok (.aload_n 0, 1) := by decide +kernel
theorem dX2_readBlock_27 : decode cX2_readBlock 27 = .ok (.getfield 28, 3) := by decide +kernel
theorem dX2_readBlock_30 : decode cX2_readBlock 30 = .ok (.ifCond .eq 5, 3) := by decide +kernel
theorem dX2_readBlock_33 : decode cX2_readBlock 33 = .ok (.aconst_null, 1) := by decide +kernel
theorem dX2_readBlock_34 : decode cX2_readBlock 34 = .ok (.areturn, 1) := by decide +kernel
theorem dX2_readBlock_35 : decode cX2_readBlock 35 = .ok (.aload_n 0, 1) := by decide +kernel
theorem dX2_readBlock_36 : decode cX2_readBlock 36 = .ok (.iload_n 1, 1) := by decide +kernel
theorem dX2_readBlock_37 : decode cX2_readBlock 37 = .ok (.iconst 1, 1) := by decide +kernel
theorem dX2_readBlock_38 : decode cX2_readBlock 38 = .ok (.iadd, 1) := by decide +kernel
theorem dX2_readBlock_39 : decode cX2_readBlock 39 = .ok (.invokevirtual 37, 3) := by decide +kernel
theorem dX2_readBlock_42 : decode cX2_readBlock 42 = .ok (.astore_n 2, 1) := by decide +kernel
theorem dX2_readBlock_43 : decode cX2_readBlock 43 = .ok (.aload_n 0, 1) := by decide +kernel
theorem dX2_readBlock_44 : decode cX2_readBlock 44 = .ok (.bipush 125, 2) := by decide +kernel
theorem dX2_readBlock_46 : decode cX2_readBlock 46 = .ok (.invokevirtual 41, 3) := by decide +kernel
theorem dX2_readBlock_49 : decode cX2_readBlock 49 = .ok (.aload_n 2, 1) := by decide +kernel
theorem dX2_readBlock_50 : decode cX2_readBlock 50 = .ok (.areturn, 1) := by decide +kernel
theorem dX2_readTest_0 : decode cX2_readTest 0 = .ok (.aload_n 0, 1) := by decide +kernel
theorem dX2_readTest_1 : decode cX2_readTest 1 = .ok (.getfield 44, 3) := by decide +kernel
theorem dX2_readTest_4 : decode cX2_readTest 4 = .ok (.bipush 15, 2) := by decide +kernel
theorem dX2_readTest_6 : decode cX2_readTest 6 = .ok (.if_icmp .lt 12, 3) := by decide +kernel
theorem dX2_readTest_9 : decode cX2_readTest 9 = .ok (.aload_n 0, 1) := by decide +kernel
theorem dX2_readTest_10 : decode cX2_readTest 10 = .ok (.getfield 44, 3) := by decide +kernel
theorem dX2_readTest_13 : decode cX2_readTest 13 = .ok (.bipush 19, 2) := by decide +kernel
theorem dX2_readTest_15 : decode cX2_readTest 15 = .ok (.if_icmp .le 8, 3) := by decide +kernel
theorem dX2_readTest_18 : decode cX2_readTest 18 = .ok (.aload_n 0, 1) := by decide +kernel
theorem dX2_readTest_19 : decode cX2_readTest 19 = .ok (.iconst 1, 1) := by decide +kernel
theorem dX2_readTest_20 : decode cX2_readTest 20 = .ok (.invokevirtual 58, 3) := by decide +kernel
theorem dX2_readTest_23 : decode cX2_readTest 23 = .ok (.aload_n 1, 1) := by decide +kernel
theorem dX2_readTest_24 : decode cX2_readTest 24 = .ok (.aload_n 0, 1) := by decide +kernel
theorem dX2_readTest_25 : decode cX2_readTest 25 = .ok (.getfield 44, 3) := by decide +kernel
theorem dX2_readTest_28 : decode cX2_readTest 28 = .ok (.putfield 94, 3) := by decide +kernel
theorem dX2_readTest_31 : decode cX2_readTest 31 = .ok (.aload_n 0, 1) := by decide +kernel
theorem dX2_readTest_32 : decode cX2_readTest 32 = .ok (.aload_n 0, 1) := by decide +kernel
theorem dX2_readTest_33 : decode cX2_readTest 33 = .ok (.getfield 44, 3) := by decide +kernel
theorem dX2_readTest_36 : decode cX2_readTest 36 = .ok (.invokevirtual 41, 3) := by decide +kernel
theorem dX2_readTest_39 : decode cX2_readTest 39 = .ok (.aload_n 1, 1) := by decide +kernel
theorem dX2_readTest_40 : decode cX2_readTest 40 = .ok (.getfield 94, 3) := by decide +kernel
theorem dX2_readTest_43 : decode cX2_readTest 43 = .ok (.bipush 17, 2) := by decide +kernel
theorem dX2_readTest_45 : decode cX2_readTest 45 = .ok (.if_icmp .eq 12, 3) := by decide +kernel
theorem dX2_readTest_48 : decode cX2_readTest 48 = .ok (.aload_n 1, 1) := by decide +kernel
theorem dX2_readTest_49 : decode cX2_readTest 49 = .ok (.getfield 94, 3) := by decide +kernel
theorem dX2_readTest_52 : decode cX2_readTest 52 = .ok (.bipush 18, 2) := by decide +kernel
theorem dX2_readTest_54 : decode cX2_readTest 54 = .ok (.if_icmp .ne 13, 3) := by decide +kernel
theorem dX2_readTest_57 : decode cX2_readTest 57 = .ok (.aload_n 1, 1) := by decide +kernel
theorem dX2_readTest_58 : decode cX2_readTest 58 = .ok (.aload_n 0, 1) := by decide +kernel
theorem dX2_readTest_59 : decode cX2_readTest 59 = .ok (.iconst 0, 1) := by decide +kernel
theorem dX2_readTest_60 : decode cX2_readTest 60 = .ok (.iconst 5, 1) := by decide +kernel
theorem dX2_readTest_61 : decode cX2_readTest 61 = .ok (.invokevirtual 72, 3) := by decide +kernel
theorem dX2_readTest_64 : decode cX2_readTest 64 = .ok (.putfield 76, 3) := by decide +kernel
theorem dX2_readTest_67 : decode cX2_readTest 67 = .ok (.aload_n 1, 1) := by decide +kernel
theorem dX2_readTest_68 : decode cX2_readTest 68 = .ok (.aload_n 0, 1) := by decide +kernel
theorem dX2_readTest_69 : decode cX2_readTest 69 = .ok (.getfield 44, 3) := by decide +kernel
theorem dX2_readTest_72 : decode cX2_readTest 72 = .ok (.bipush 60, 2) := by decide +kernel
theorem dX2_readTest_74 : decode cX2_readTest 74 = .ok (.if_icmp .ne 7, 3) := by decide +kernel
theorem dX2_readTest_77 : decode cX2_readTest 77 = .ok (.iconst 1, 1) := by decide +kernel
theorem dX2_readTest_78 : decode cX2_readTest 78 = .ok (.goto 4, 3) := by decide +kernel
theorem dX2_readTest_81 : decode cX2_readTest 81 = .ok (.iconst 0, 1) := by decide +kernel
theorem dX2_readTest_82 : decode cX2_readTest 82 = .ok (.putfield 97, 3) := by decide +kernel
theorem dX2_readTest_85 : decode cX2_readTest 85 = .ok (.aload_n 0, 1) := by decide +kernel
theorem dX2_readTest_86 : decode cX2_readTest 86 = .ok (.aload_n 1, 1) := by decide +kernel
theorem dX2_readTest_87 : decode cX2_readTest 87 = .ok (.getfield 97, 3) := by decide +kernel
theorem dX2_readTest_90 : decode cX2_readTest 90 = .ok (.ifCond .eq 8, 3) := by decide +kernel
theorem dX2_readTest_93 : decode cX2_readTest 93 = .ok (.bipush 60, 2) := by decide +kernel
theorem dX2_readTest_95 : decode cX2_readTest 95 = .ok (.goto 5, 3) := by decide +kernel
theorem dX2_readTest_98 : decode cX2_readTest 98 = .ok (.bipush 61, 2) := by decide +kernel
theorem dX2_readTest_100 : decode cX2_readTest 100 = .ok (.invokevirtual 41, 3) := by decide +kernel
theorem dX2_readTest_103 : decode cX2_readTest 103 = .ok (.aload_n 1, 1) := by decide +kernel
theorem dX2_readTest_104 : decode cX2_readTest 104 = .ok (.aload_n 0, 1) := by decide +kernel
theorem dX2_readTest_105 : decode cX2_readTest 105 = .ok (.iconst 0, 1) := by decide +kernel
theorem dX2_readTest_106 : decode cX2_readTest 106 = .ok (.sipush 9999, 3) := by decide +kernel
theorem dX2_readTest_109 : decode cX2_readTest 109 = .ok (.invokevirtual 72, 3) := by decide +kernel
theorem dX2_readTest_112 : decode cX2_readTest 112 = .ok (.putfield 79, 3) := by decide +kernel
theorem dX2_readTest_115 : decode cX2_readTest 115 = .ok (.return_, 1) := by decide +kernel
theorem dX2_readNumber_0 : decode cX2_readNumber 0 = .ok (.aload_n 0, 1) := by decide +kernel
theorem dX2_readNumber_1 : decode cX2_readNumber 1 = .ok (.getfield 101, 3) := by decide +kernel
theorem dX2_readNumber_4 : decode cX2_readNumber 4 = .ok (.ifCond .lt 33, 3) := by decide +kernel
theorem dX2_readNumber_7 : decode cX2_readNumber 7 = .ok (.aload_n 0, 1) := by decide +kernel
theorem dX2_readNumber_8 : decode cX2_readNumber 8 = .ok (.getfield 101, 3) := by decide +kernel
theorem dX2_readNumber_11 : decode cX2_readNumber 11 = .ok (.aload_n 0, 1) := by decide +kernel
theorem dX2_readNumber_12 : decode cX2_readNumber 12 = .ok (.getfield 20, 3) := by decide +kernel
theorem dX2_readNumber_15 : decode cX2_readNumber 15 = .ok (.getfield 104, 3) := by decide +kernel
theorem dX2_readNumber_18 : decode cX2_readNumber 18 = .ok (.arraylength, 1) := by decide +kernel
theorem dX2_readNumber_19 : decode cX2_readNumber 19 = .ok (.if_icmp .ge 18, 3) := by decide +kernel
theorem dX2_readNumber_22 : decode cX2_readNumber 22 = .ok (.aload_n 0, 1) := by decide +kernel
theorem dX2_readNumber_23 : decode cX2_readNumber 23 = .ok (.getfield 20, 3) := by decide +kernel
theorem dX2_readNumber_26 : decode cX2_readNumber 26 = .ok (.getfield 104, 3) := by decide +kernel
theorem dX2_readNumber_29 : decode cX2_readNumber 29 = .ok (.aload_n 0, 1) := by decide +kernel
theorem dX2_readNumber_30 : decode cX2_readNumber 30 = .ok (.getfield 101, 3) := by decide +kernel
theorem dX2_readNumber_33 : decode cX2_readNumber 33 = .ok (.iaload, 1) := by decide +kernel
theorem dX2_readNumber_34 : decode cX2_readNumber 34 = .ok (.goto 4, 3) := by decide +kernel
theorem dX2_readNumber_38 : decode cX2_readNumber 38 = .ok (.istore_n 3, 1) := by decide +kernel
theorem dX2_readNumber_39 : decode cX2_readNumber 39 = .ok (.aload_n 0, 1) := by decide +kernel
theorem dX2_readNumber_40 : decode cX2_readNumber 40 = .ok (.getfield 44, 3) := by decide +kernel
theorem dX2_readNumber_43 : decode cX2_readNumber 43 = .ok (.bipush (-2), 2) := by decide +kernel
theorem dX2_readNumber_45 : decode cX2_readNumber 45 = .ok (.if_icmp .ne 11, 3) := by decide +kernel
theorem dX2_readNumber_48 : decode cX2_readNumber 48 = .ok (.aload_n 0, 1) := by decide +kernel
theorem dX2_readNumber_49 : decode cX2_readNumber 49 = .ok (.iconst 2, 1) := by decide +kernel
theorem dX2_readNumber_50 : decode cX2_readNumber 50 = .ok (.invokevirtual 58, 3) := by decide +kernel
theorem dX2_readNumber_53 : decode cX2_readNumber 53 = .ok (.goto 26, 3) := by decide +kernel
theorem dX2_readNumber_56 : decode cX2_readNumber 56 = .ok (.aload_n 0, 1) := by decide +kernel
theorem dX2_readNumber_57 : decode cX2_readNumber 57 = .ok (.getfield 44, 3) := by decide +kernel
theorem dX2_readNumber_60 : decode cX2_readNumber 60 = .ok (.iconst (-1), 1) := by decide +kernel
theorem dX2_readNumber_61 : decode cX2_readNumber 61 = .ok (.if_icmp .ne 18, 3) := by decide +kernel
theorem dX2_readNumber_64 : decode cX2_readNumber 64 = .ok (.iload_n 3, 1) := by decide +kernel
theorem dX2_readNumber_65 : decode cX2_readNumber 65 = .ok (.iload_n 1, 1) := by decide +kernel
theorem dX2_readNumber_66 : decode cX2_readNumber 66 = .ok (.if_icmp .lt 8, 3) := by decide +kernel
theorem dX2_readNumber_69 : decode cX2_readNumber 69 = .ok (.iload_n 3, 1) := by decide +kernel
theorem dX2_readNumber_70 : decode cX2_readNumber 70 = .ok (.iload_n 2, 1) := by decide +kernel
theorem dX2_readNumber_71 : decode cX2_readNumber 71 = .ok (.if_icmp .le 8, 3) := by decide +kernel
theorem dX2_readNumber_74 : decode cX2_readNumber 74 = .ok (.aload_n 0, 1) := by decide +kernel
theorem dX2_readNumber_75 : decode cX2_readNumber 75 = .ok (.iconst 2, 1) := by decide +kernel
theorem dX2_readNumber_76 : decode cX2_readNumber 76 = .ok (.invokevirtual 58, 3) := by decide +kernel
theorem dX2_readNumber_79 : decode cX2_readNumber 79 = .ok (.aload_n 0, 1) := by decide +kernel
theorem dX2_readNumber_80 : decode cX2_readNumber 80 = .ok (.iconst (-1), 1) := by decide +kernel
theorem dX2_readNumber_81 : decode cX2_readNumber 81 = .ok (.invokevirtual 41, 3) := by decide +kernel
theorem dX2_readNumber_84 : decode cX2_readNumber 84 = .ok (.iload_n 3, 1) := by decide +kernel
theorem dX2_readNumber_85 : decode cX2_readNumber 85 = .ok (.ireturn, 1) := by decide +kernel
theorem dX2_pass_0 : decode cX2_pass 0 = .ok (.aload_n 0, 1) := by decide +kernel
theorem dX2_pass_1 : decode cX2_pass 1 = .ok (.getfield 44, 3) := by decide +kernel
theorem dX2_pass_4 : decode cX2_pass 4 = .ok (.iload_n 1, 1) := by decide +kernel
theorem dX2_pass_5 : decode cX2_pass 5 = .ok (.if_icmp .eq 8, 3) := by decide +kernel
theorem dX2_pass_8 : decode cX2_pass 8 = .ok (.aload_n 0, 1) := by decide +kernel
theorem dX2_pass_9 : decode cX2_pass 9 = .ok (.iconst 1, 1) := by decide +kernel
theorem dX2_pass_10 : decode cX2_pass 10 = .ok (.invokevirtual 58, 3) := by decide +kernel
theorem dX2_pass_13 : decode cX2_pass 13 = .ok (.aload_n 0, 1) := by decide +kernel
theorem dX2_pass_14 : decode cX2_pass 14 = .ok (.getfield 28, 3) := by decide +kernel
theorem dX2_pass_17 : decode cX2_pass 17 = .ok (.ifCond .ne 13, 3) := by decide +kernel
theorem dX2_pass_20 : decode cX2_pass 20 = .ok (.aload_n 0, 1) := by decide +kernel
theorem dX2_pass_21 : decode cX2_pass 21 = .ok (.aload_n 0, 1) := by decide +kernel
theorem dX2_pass_22 : decode cX2_pass 22 = .ok (.getfield 101, 3) := by decide +kernel
theorem dX2_pass_25 : decode cX2_pass 25 = .ok (.iconst 1, 1) := by decide +kernel
theorem dX2_pass_26 : decode cX2_pass 26 = .ok (.iadd, 1) := by decide +kernel
theorem dX2_pass_27 : decode cX2_pass 27 = .ok (.invokevirtual 34, 3) := by decide +kernel
theorem dX2_pass_30 : decode cX2_pass 30 = .ok (.return_, 1) := by decide +kernel
theorem dX2_moveTo_0 : decode cX2_moveTo 0 = .ok (.aload_n 0, 1) := by decide +kernel
theorem dX2_moveTo_1 : decode cX2_moveTo 1 = .ok (.iload_n 1, 1) := by decide +kernel
theorem dX2_moveTo_2 : decode cX2_moveTo 2 = .ok (.putfield 101, 3) := by decide +kernel
theorem dX2_moveTo_5 : decode cX2_moveTo 5 = .ok (.aload_n 0, 1) := by decide +kernel
theorem dX2_moveTo_6 : decode cX2_moveTo 6 = .ok (.iload_n 1, 1) := by decide +kernel
theorem dX2_moveTo_7 : decode cX2_moveTo 7 = .ok (.ifCond .lt 38, 3) := by decide +kernel
theorem dX2_moveTo_10 : decode cX2_moveTo 10 = .ok (.iload_n 1, 1) := by decide +kernel
theorem dX2_moveTo_11 : decode cX2_moveTo 11 = .ok (.aload_n 0, 1) := by decide +kernel
theorem dX2_moveTo_12 : decode cX2_moveTo 12 = .ok (.getfield 20, 3) := by decide +kernel
theorem dX2_moveTo_15 : decode cX2_moveTo 15 = .ok (.getfield 108, 3) := by decide +kernel
theorem dX2_moveTo_18 : decode cX2_moveTo 18 = .ok (.if_icmp .ge 27, 3) := by decide +kernel
theorem dX2_moveTo_21 : decode cX2_moveTo 21 = .ok (.iload_n 1, 1) := by decide +kernel
theorem dX2_moveTo_22 : decode cX2_moveTo 22 = .ok (.aload_n 0, 1) := by decide +kernel
theorem dX2_moveTo_23 : decode cX2_moveTo 23 = .ok (.getfield 20, 3) := by decide +kernel
theorem dX2_moveTo_26 : decode cX2_moveTo 26 = .ok (.getfield 111, 3) := by decide +kernel
theorem dX2_moveTo_29 : decode cX2_moveTo 29 = .ok (.arraylength, 1) := by decide +kernel
theorem dX2_moveTo_30 : decode cX2_moveTo 30 = .ok (.if_icmp .ge 15, 3) := by decide +kernel
theorem dX2_moveTo_33 : decode cX2_moveTo 33 = .ok (.aload_n 0, 1) := by decide +kernel
theorem dX2_moveTo_34 : decode cX2_moveTo 34 = .ok (.getfield 20, 3) := by decide +kernel
theorem dX2_moveTo_37 : decode cX2_moveTo 37 = .ok (.getfield 111, 3) := by decide +kernel
theorem dX2_moveTo_40 : decode cX2_moveTo 40 = .ok (.iload_n 1, 1) := by decide +kernel
theorem dX2_moveTo_41 : decode cX2_moveTo 41 = .ok (.iaload, 1) := by decide +kernel
theorem dX2_moveTo_42 : decode cX2_moveTo 42 = .ok (.goto 4, 3) := by decide +kernel
theorem dX2_moveTo_45 : decode cX2_moveTo 45 = .ok (.iconst 0, 1) := by decide +kernel
theorem dX2_moveTo_46 : decode cX2_moveTo 46 = .ok (.putfield 44, 3) := by decide +kernel
theorem dX2_moveTo_49 : decode cX2_moveTo 49 = .ok (.return_, 1) := by decide +kernel
theorem dX2_refuse_0 : decode cX2_refuse 0 = .ok (.aload_n 0, 1) := by decide +kernel
theorem dX2_refuse_1 : decode cX2_refuse 1 = .ok (.getfield 28, 3) := by decide +kernel
theorem dX2_refuse_4 : decode cX2_refuse 4 = .ok (.ifCond .ne 50, 3) := by decide +kernel
theorem dX2_refuse_7 : decode cX2_refuse 7 = .ok (.aload_n 0, 1) := by decide +kernel
theorem dX2_refuse_8 : decode cX2_refuse 8 = .ok (.iload_n 1, 1) := by decide +kernel
theorem dX2_refuse_9 : decode cX2_refuse 9 = .ok (.putfield 28, 3) := by decide +kernel
theorem dX2_refuse_12 : decode cX2_refuse 12 = .ok (.aload_n 0, 1) := by decide +kernel
theorem dX2_refuse_13 : decode cX2_refuse 13 = .ok (.aload_n 0, 1) := by decide +kernel
theorem dX2_refuse_14 : decode cX2_refuse 14 = .ok (.getfield 101, 3) := by decide +kernel
theorem dX2_refuse_17 : decode cX2_refuse 17 = .ok (.ifCond .lt 33, 3) := by decide +kernel
theorem dX2_refuse_20 : decode cX2_refuse 20 = .ok (.aload_n 0, 1) := by decide +kernel
theorem dX2_refuse_21 : decode cX2_refuse 21 = .ok (.getfield 101, 3) := by decide +kernel
theorem dX2_refuse_24 : decode cX2_refuse 24 = .ok (.aload_n 0, 1) := by decide +kernel
theorem dX2_refuse_25 : decode cX2_refuse 25 = .ok (.getfield 20, 3) := by decide +kernel
theorem dX2_refuse_28 : decode cX2_refuse 28 = .ok (.getfield 114, 3) := by decide +kernel
theorem dX2_refuse_31 : decode cX2_refuse 31 = .ok (.arraylength, 1) := by decide +kernel
theorem dX2_refuse_32 : decode cX2_refuse 32 = .ok (.if_icmp .ge 18, 3) := by decide +kernel
theorem dX2_refuse_35 : decode cX2_refuse 35 = .ok (.aload_n 0, 1) := by decide +kernel
theorem dX2_refuse_36 : decode cX2_refuse 36 = .ok (.getfield 20, 3) := by decide +kernel
theorem dX2_refuse_39 : decode cX2_refuse 39 = .ok (.getfield 114, 3) := by decide +kernel
theorem dX2_refuse_42 : decode cX2_refuse 42 = .ok (.aload_n 0, 1) := by decide +kernel
theorem dX2_refuse_43 : decode cX2_refuse 43 = .ok (.getfield 101, 3) := by decide +kernel
theorem dX2_refuse_46 : decode cX2_refuse 46 = .ok (.iaload, 1) := by decide +kernel
theorem dX2_refuse_47 : decode cX2_refuse 47 = .ok (.goto 4, 3) := by decide +kernel
theorem dX2_refuse_50 : decode cX2_refuse 50 = .ok (.iconst (-1), 1) := by decide +kernel
theorem dX2_refuse_51 : decode cX2_refuse 51 = .ok (.putfield 9, 3) := by decide +kernel
theorem dX2_refuse_54 : decode cX2_refuse 54 = .ok (.return_, 1) := by decide +kernel
theorem dX3_init_0 : decode cX3_init 0 = .ok (.aload_n 0, 1) := by decide +kernel
theorem dX3_init_1 : decode cX3_init 1 = .ok (.invokespecial 1, 3) := by decide +kernel
theorem dX3_init_4 : decode cX3_init 4 = .ok (.aload_n 0, 1) := by decide +kernel
theorem dX3_init_5 : decode cX3_init 5 = .ok (.aload_n 1, 1) := by decide +kernel
theorem dX3_init_6 : decode cX3_init 6 = .ok (.putfield 7, 3) := by decide +kernel
theorem dX3_init_9 : decode cX3_init 9 = .ok (.return_, 1) := by decide +kernel
theorem dX4_init_0 : decode cX4_init 0 = .ok (.aload_n 0, 1) := by decide +kernel
theorem dX4_init_1 : decode cX4_init 1 = .ok (.invokespecial 3, 3) := by decide +kernel
theorem dX4_init_4 : decode cX4_init 4 = .ok (.aload_n 0, 1) := by decide +kernel
theorem dX4_init_5 : decode cX4_init 5 = .ok (.iconst (-1), 1) := by decide +kernel
theorem dX4_init_6 : decode cX4_init 6 = .ok (.putfield 9, 3) := by decide +kernel
theorem dX4_init_9 : decode cX4_init 9 = .ok (.aload_n 0, 1) := by decide +kernel
theorem dX4_init_10 : decode cX4_init 10 = .ok (.aload_n 1, 1) := by decide +kernel
theorem dX4_init_11 : decode cX4_init 11 = .ok (.putfield 15, 3) := by decide +kernel
theorem dX4_init_14 : decode cX4_init 14 = .ok (.return_, 1) := by decide +kernel
theorem dX4_follow_0 : decode cX4_follow 0 = .ok (.aload_n 0, 1) := by decide +kernel
theorem dX4_follow_1 : decode cX4_follow 1 = .ok (.iload_n 3, 1) := by decide +kernel
theorem dX4_follow_2 : decode cX4_follow 2 = .ok (.putfield 19, 3) := by decide +kernel
theorem dX4_follow_5 : decode cX4_follow 5 = .ok (.aload_n 0, 1) := by decide +kernel
theorem dX4_follow_6 : decode cX4_follow 6 = .ok (.iconst 0, 1) := by decide +kernel
theorem dX4_follow_7 : decode cX4_follow 7 = .ok (.putfield 22, 3) := by decide +kernel
theorem dX4_follow_10 : decode cX4_follow 10 = .ok (.aload_n 0, 1) := by decide +kernel
theorem dX4_follow_11 : decode cX4_follow 11 = .ok (.iconst 0, 1) := by decide +kernel
theorem dX4_follow_12 : decode cX4_follow 12 = .ok (.putfield 25, 3) := by decide +kernel
theorem dX4_follow_15 : decode cX4_follow 15 = .ok (.aload_n 0, 1) := by decide +kernel
theorem dX4_follow_16 : decode cX4_follow 16 = .ok (.iconst 0, 1) := by decide +kernel
theorem dX4_follow_17 : decode cX4_follow 17 = .ok (.putfield 28, 3) := by decide +kernel
theorem dX4_follow_20 : decode cX4_follow 20 = .ok (.aload_n 0, 1) := by decide +kernel
theorem dX4_follow_21 : decode cX4_follow 21 = .ok (.iconst 0, 1) := by decide +kernel
theorem dX4_follow_22 : decode cX4_follow 22 = .ok (.putfield 31, 3) := by decide +kernel
theorem dX4_follow_25 : decode cX4_follow 25 = .ok (.aload_n 0, 1) := by decide +kernel
theorem dX4_follow_26 : decode cX4_follow 26 = .ok (.aload_n 1, 1) := by decide +kernel
theorem dX4_follow_27 : decode cX4_follow 27 = .ok (.aload_n 2, 1) := by decide +kernel
theorem dX4_follow_28 : decode cX4_follow 28 = .ok (.iconst 0, 1) := by decide +kernel
theorem dX4_follow_29 : decode cX4_follow 29 = .ok (.invokevirtual 34, 3) := by decide +kernel
theorem dX4_follow_32 : decode cX4_follow 32 = .ok (.istore 4, 2) := by decide +kernel
theorem dX4_follow_34 : decode cX4_follow 34 = .ok (.aload_n 0, 1) := by decide +kernel
theorem dX4_follow_35 : decode cX4_follow 35 = .ok (.iconst 0, 1) := by decide +kernel
theorem dX4_follow_36 : decode cX4_follow 36 = .ok (.iload 4, 2) := by decide +kernel
theorem dX4_follow_38 : decode cX4_follow 38 = .ok (.invokestatic 38, 3) := by decide +kernel
theorem dX4_follow_41 : decode cX4_follow 41 = .ok (.putfield 44, 3) := by decide +kernel
theorem dX4_follow_44 : decode cX4_follow 44 = .ok (.iload 4, 2) := by decide +kernel
theorem dX4_follow_46 : decode cX4_follow 46 = .ok (.iconst (-1), 1) := by decide +kernel
theorem dX4_follow_47 : decode cX4_follow 47 = .ok (.if_icmp .ne 11, 3) := by decide +kernel
theorem dX4_follow_50 : decode cX4_follow 50 = .ok (.aload_n 0, 1) := by decide +kernel
theorem dX4_follow_51 : decode cX4_follow 51 = .ok (.iconst 2, 1) := by decide +kernel
theorem dX4_follow_52 : decode cX4_follow 52 = .ok (.putfield 9, 3) := by decide +kernel
theorem dX4_follow_55 : decode cX4_follow 55 = .ok (.goto 17, 3) := by decide +kernel
theorem dX4_follow_58 : decode cX4_follow 58 = .ok (.aload_n 0, 1) := by decide +kernel
theorem dX4_follow_59 : decode cX4_follow 59 = .ok (.iload 4, 2) := by decide +kernel
theorem dX4_follow_61 : decode cX4_follow 61 = .ok (.ifCond .ne 7, 3) := by decide +kernel
theorem dX4_follow_64 : decode cX4_follow 64 = .ok (.iconst 0, 1) := by decide +kernel
theorem dX4_follow_65 : decode cX4_follow 65 = .ok (.goto 4, 3) := by decide +kernel
theorem dX4_follow_68 : decode cX4_follow 68 = .ok (.iconst 1, 1) := by decide +kernel
theorem dX4_follow_69 : decode cX4_follow 69 = .ok (.putfield 9, 3) := by decide +kernel
theorem dX4_follow_72 : decode cX4_follow 72 = .ok (.aload_n 0, 1) := by decide +kernel
theorem dX4_follow_73 : decode cX4_follow 73 = .ok (.getfield 9, 3) := by decide +kernel
theorem dX4_follow_76 : decode cX4_follow 76 = .ok (.ireturn, 1) := by decide +kernel
theorem dX4_mayCount_0 : decode cX4_mayCount 0 = .ok (.aload_n 0, 1) := by decide +kernel
theorem dX4_mayCount_1 : decode cX4_mayCount 1 = .ok (.getfield 22, 3) := by decide +kernel
theorem dX4_mayCount_4 : decode cX4_mayCount 4 = .ok (.aload_n 0, 1) := by decide +kernel
theorem dX4_mayCount_5 : decode cX4_mayCount 5 = .ok (.getfield 19, 3) := by decide +kernel
theorem dX4_mayCount_8 : decode cX4_mayCount 8 = .ok (.if_icmp .lt 5, 3) := by decide +kernel
theorem dX4_mayCount_11 : decode cX4_mayCount 11 = .ok (.iconst 0, 1) := by decide +kernel
theorem dX4_mayCount_12 : decode cX4_mayCount 12 = .ok (.ireturn, 1) := by decide +kernel
theorem dX4_mayCount_13 : decode cX4_mayCount 13 = .ok (.aload_n 0, 1) := by decide +kernel
theorem dX4_mayCount_14 : decode cX4_mayCount 14 = .ok (.dup, 1) := by decide +kernel
theorem dX4_mayCount_15 : decode cX4_mayCount 15 = .ok (.getfield 22, 3) := by decide +kernel
theorem dX4_mayCount_18 : decode cX4_mayCount 18 = .ok (.iconst 1, 1) := by decide +kernel
theorem dX4_mayCount_19 : decode cX4_mayCount 19 = .ok (.iadd, 1) := by decide +kernel
theorem dX4_mayCount_20 : decode cX4_mayCount 20 = .ok (.putfield 22, 3) := by decide +kernel
theorem dX4_mayCount_23 : decode cX4_mayCount 23 = .ok (.iconst 1, 1) := by decide +kernel
theorem dX4_mayCount_24 : decode cX4_mayCount 24 = .ok (.ireturn, 1) := by decide +kernel
theorem dX4_doSteps_0 : decode cX4_doSteps 0 = .ok (.iload_n 3, 1) := by decide +kernel
theorem dX4_doSteps_1 : decode cX4_doSteps 1 = .ok (.bipush 8, 2) := by decide +kernel
theorem dX4_doSteps_3 : decode cX4_doSteps 3 = .ok (.if_icmp .le 5, 3) := by decide +kernel
theorem dX4_doSteps_6 : decode cX4_doSteps 6 = .ok (.iconst (-1), 1) := by decide +kernel
theorem dX4_doSteps_7 : decode cX4_doSteps 7 = .ok (.ireturn, 1) := by decide +kernel
theorem dX4_doSteps_8 : decode cX4_doSteps 8 = .ok (.iconst 0, 1) := by decide +kernel
theorem dX4_doSteps_9 : decode cX4_doSteps 9 = .ok (.istore 4, 2) := by decide +kernel
theorem dX4_doSteps_11 : decode cX4_doSteps 11 = .ok (.aload_n 1, 1) := by decide +kernel
theorem dX4_doSteps_12 : decode cX4_doSteps 12 = .ok (.astore 5, 2) := by decide +kernel
theorem dX4_doSteps_14 : decode cX4_doSteps 14 = .ok (.aload 5, 2) := by decide +kernel
theorem dX4_doSteps_16 : decode cX4_doSteps 16 = .ok (.ifnull 65, 3) := by decide +kernel
theorem dX4_doSteps_19 : decode cX4_doSteps 19 = .ok (.iload 4, 2) := by decide +kernel
theorem dX4_doSteps_21 : decode cX4_doSteps 21 = .ok (.ifCond .ne 60, 3) := by decide +kernel
theorem dX4_doSteps_24 : decode cX4_doSteps 24 = .ok (.aload_n 0, 1) := by decide +kernel
theorem dX4_doSteps_25 : decode cX4_doSteps 25 = .ok (.invokevirtual 47, 3) := by decide +kernel
theorem dX4_doSteps_28 : decode cX4_doSteps 28 = .ok (.ifCond .ne 9, 3) := by decide +kernel
theorem dX4_doSteps_31 : decode cX4_doSteps 31 = .ok (.iconst (-1), 1) := by decide +kernel
theorem dX4_doSteps_32 : decode cX4_doSteps 32 = .ok (.istore 4, 2) := by decide +kernel
theorem dX4_doSteps_34 : decode cX4_doSteps 34 = .ok (.goto 37, 3) := by decide +kernel
theorem dX4_doSteps_37 : decode cX4_doSteps 37 = .ok (.aload 5, 2) := by decide +kernel
theorem dX4_doSteps_39 : decode cX4_doSteps 39 = .ok (.getfield 51, 3) := by decide +kernel
theorem dX4_doSteps_42 : decode cX4_doSteps 42 = .ok (.bipush 8, 2) := by decide +kernel
theorem dX4_doSteps_44 : decode cX4_doSteps 44 = .ok (.if_icmp .ge 15, 3) := by decide +kernel
theorem dX4_doSteps_47 : decode cX4_doSteps 47 = .ok (.aload_n 0, 1) := by decide +kernel
theorem dX4_doSteps_48 : decode cX4_doSteps 48 = .ok (.aload 5, 2) := by decide +kernel
theorem dX4_doSteps_50 : decode cX4_doSteps 50 = .ok (.aload_n 2, 1) := by decide +kernel
theorem dX4_doSteps_51 : decode cX4_doSteps 51 = .ok (.invokevirtual 56, 3) := by decide +kernel
theorem dX4_doSteps_54 : decode cX4_doSteps 54 = .ok (.istore 4, 2) := by decide +kernel
theorem dX4_doSteps_56 : decode cX4_doSteps 56 = .ok (.goto 15, 3) := by decide +kernel
theorem dX4_doSteps_59 : decode cX4_doSteps 59 = .ok (.aload_n 0, 1) := by decide +kernel
theorem dX4_doSteps_60 : decode cX4_doSteps 60 = .ok (.aload 5, 2) := by decide +kernel
theorem dX4_doSteps_62 : decode cX4_doSteps 62 = .ok (.aload_n 2, 1) := by decide +kernel
theorem dX4_doSteps_63 : decode cX4_doSteps 63 = .ok (.iload_n 3, 1) := by decide +kernel
theorem dX4_doSteps_64 : decode cX4_doSteps 64 = .ok (.iconst 1, 1) := by decide +kernel
theorem dX4_doSteps_65 : decode cX4_doSteps 65 = .ok (.iadd, 1) := by decide +kernel
theorem dX4_doSteps_66 : decode cX4_doSteps 66 = .ok (.invokevirtual 60, 3) := by decide +kernel
theorem dX4_doSteps_69 : decode cX4_doSteps 69 = .ok (.istore 4, 2) := by decide +kernel
theorem dX4_doSteps_71 : decode cX4_doSteps 71 = .ok (.aload 5, 2) := by decide +kernel
theorem dX4_doSteps_73 : decode cX4_doSteps 73 = .ok (.getfield 63, 3) := by decide +kernel
theorem dX4_doSteps_76 : decode cX4_doSteps 76 = .ok (.astore 5, 2) := by decide +kernel
theorem dX4_doSteps_78 : decode cX4_doSteps 78 = .ok (.goto (-64), 3) := by decide +kernel
theorem dX4_doSteps_81 : decode cX4_doSteps 81 = .ok (.iload 4, 2) := by decide +kernel
theorem dX4_doSteps_83 : decode cX4_doSteps 83 = .ok (.ireturn, 1) := by decide +kernel
theorem dX4_doPlain_0 : decode cX4_doPlain 0 = .ok (.aload_n 1, 1) := by decide +kernel
theorem dX4_doPlain_1 : decode cX4_doPlain 1 = .ok (.getfield 51, 3) := by decide +kernel
theorem dX4_doPlain_4 : decode cX4_doPlain 4 = .ok (.tableswitch 130 1 6 #[40, 61, 67, 78, 87, 114], 40) := by decide +kernel
theorem dX4_doPlain_44 : decode cX4_doPlain 44 = .ok (.aload_n 0, 1) := by decide +kernel
theorem dX4_doPlain_45 : decode cX4_doPlain 45 = .ok (.aload_n 0, 1) := by decide +kernel
theorem dX4_doPlain_46 : decode cX4_doPlain 46 = .ok (.getfield 15, 3) := by decide +kernel
theorem dX4_doPlain_49 : decode cX4_doPlain 49 = .ok (.aload_n 1, 1) := by decide +kernel
theorem dX4_doPlain_50 : decode cX4_doPlain 50 = .ok (.getfield 67, 3) := by decide +kernel
theorem dX4_doPlain_53 : decode cX4_doPlain 53 = .ok (.invokevirtual 70, 3) := by decide +kernel
theorem dX4_doPlain_56 : decode cX4_doPlain 56 = .ok (.aload_n 2, 1) := by decide +kernel
theorem dX4_doPlain_57 : decode cX4_doPlain 57 = .ok (.aload_n 1, 1) := by decide +kernel
theorem dX4_doPlain_58 : decode cX4_doPlain 58 = .ok (.getfield 76, 3) := by decide +kernel
theorem dX4_doPlain_61 : decode cX4_doPlain 61 = .ok (.invokevirtual 79, 3) := by decide +kernel
theorem dX4_doPlain_64 : decode cX4_doPlain 64 = .ok (.ireturn, 1) := by decide +kernel
theorem dX4_doPlain_65 : decode cX4_doPlain 65 = .ok (.aload_n 0, 1) := by decide +kernel
theorem dX4_doPlain_66 : decode cX4_doPlain 66 = .ok (.aload_n 2, 1) := by decide +kernel
theorem dX4_doPlain_67 : decode cX4_doPlain 67 = .ok (.invokevirtual 83, 3) := by decide +kernel
theorem dX4_doPlain_70 : decode cX4_doPlain 70 = .ok (.ireturn, 1) := by decide +kernel
theorem dX4_doPlain_71 : decode cX4_doPlain 71 = .ok (.aload_n 0, 1) := by decide +kernel
theorem dX4_doPlain_72 : decode cX4_doPlain 72 = .ok (.getfield 15, 3) := by decide +kernel
theorem dX4_doPlain_75 : decode cX4_doPlain 75 = .ok (.aload_n 2, 1) := by decide +kernel
theorem dX4_doPlain_76 : decode cX4_doPlain 76 = .ok (.invokevirtual 87, 3) := by decide +kernel
theorem dX4_doPlain_79 : decode cX4_doPlain 79 = .ok (.pop, 1) := by decide +kernel
theorem dX4_doPlain_80 : decode cX4_doPlain 80 = .ok (.iconst 0, 1) := by decide +kernel
theorem dX4_doPlain_81 : decode cX4_doPlain 81 = .ok (.ireturn, 1) := by decide +kernel
theorem dX4_doPlain_82 : decode cX4_doPlain 82 = .ok (.aload_n 0, 1) := by decide +kernel
theorem dX4_doPlain_83 : decode cX4_doPlain 83 = .ok (.aload_n 1, 1) := by decide +kernel
theorem dX4_doPlain_84 : decode cX4_doPlain 84 = .ok (.getfield 76, 3) := by decide +kernel
theorem dX4_doPlain_87 : decode cX4_doPlain 87 = .ok (.invokevirtual 90, 3) := by decide +kernel
theorem dX4_doPlain_90 : decode cX4_doPlain 90 = .ok (.ireturn, 1) := by decide +kernel
theorem dX4_doPlain_91 : decode cX4_doPlain 91 = .ok (.aload_n 0, 1) := by decide +kernel
theorem dX4_doPlain_92 : decode cX4_doPlain 92 = .ok (.getfield 15, 3) := by decide +kernel
theorem dX4_doPlain_95 : decode cX4_doPlain 95 = .ok (.aload_n 1, 1) := by decide +kernel
theorem dX4_doPlain_96 : decode cX4_doPlain 96 = .ok (.getfield 67, 3) := by decide +kernel
theorem dX4_doPlain_99 : decode cX4_doPlain 99 = .ok (.invokevirtual 70, 3) := by decide +kernel
theorem dX4_doPlain_102 : decode cX4_doPlain 102 = .ok (.aload_n 1, 1) := by decide +kernel
theorem dX4_doPlain_103 : decode cX4_doPlain 103 = .ok (.getfield 76, 3) := by decide +kernel
theorem dX4_doPlain_106 : decode cX4_doPlain 106 = .ok (.invokevirtual 94, 3) := by decide +kernel
theorem dX4_doPlain_109 : decode cX4_doPlain 109 = .ok (.ifCond .eq 7, 3) := by decide +kernel
theorem dX4_doPlain_112 : decode cX4_doPlain 112 = .ok (.iconst 0, 1) := by decide +kernel
theorem dX4_doPlain_113 : decode cX4_doPlain 113 = .ok (.goto 4, 3) := by decide +kernel
theorem dX4_doPlain_116 : decode cX4_doPlain 116 = .ok (.iconst 5, 1) := by decide +kernel
theorem dX4_doPlain_117 : decode cX4_doPlain 117 = .ok (.ireturn, 1) := by decide +kernel
theorem dX4_doPlain_118 : decode cX4_doPlain 118 = .ok (.aload_n 0, 1) := by decide +kernel
theorem dX4_doPlain_119 : decode cX4_doPlain 119 = .ok (.aload_n 0, 1) := by decide +kernel
theorem dX4_doPlain_120 : decode cX4_doPlain 120 = .ok (.getfield 15, 3) := by decide +kernel
theorem dX4_doPlain_123 : decode cX4_doPlain 123 = .ok (.aload_n 1, 1) := by decide +kernel
theorem dX4_doPlain_124 : decode cX4_doPlain 124 = .ok (.getfield 67, 3) := by decide +kernel
theorem dX4_doPlain_127 : decode cX4_doPlain 127 = .ok (.invokevirtual 70, 3) := by decide +kernel
theorem dX4_doPlain_130 : decode cX4_doPlain 130 = .ok (.invokevirtual 100, 3) := by decide +kernel
theorem dX4_doPlain_133 : decode cX4_doPlain 133 = .ok (.ireturn, 1) := by decide +kernel
theorem dX4_doPlain_134 : decode cX4_doPlain 134 = .ok (.bipush 100, 2) := by decide +kernel
theorem dX4_doPlain_136 : decode cX4_doPlain 136 = .ok (.aload_n 1, 1) := by decide +kernel
theorem dX4_doPlain_137 : decode cX4_doPlain 137 = .ok (.getfield 76, 3) := by decide +kernel
theorem dX4_doPlain_140 : decode cX4_doPlain 140 = .ok (.iadd, 1) := by decide +kernel
theorem dX4_doPlain_141 : decode cX4_doPlain 141 = .ok (.ireturn, 1) := by decide +kernel
theorem dX4_doBuilt_0 : decode cX4_doBuilt 0 = .ok (.aload_n 1, 1) := by decide +kernel
theorem dX4_doBuilt_1 : decode cX4_doBuilt 1 = .ok (.getfield 51, 3) := by decide +kernel
theorem dX4_doBuilt_4 : decode cX4_doBuilt 4 = .ok (.tableswitch 83 8 11 #[32, 40, 48, 75], 32) := by decide +kernel
theorem dX4_doBuilt_36 : decode cX4_doBuilt 36 = .ok (.aload_n 0, 1) := by decide +kernel
theorem dX4_doBuilt_37 : decode cX4_doBuilt 37 = .ok (.aload_n 1, 1) := by decide +kernel
theorem dX4_doBuilt_38 : decode cX4_doBuilt 38 = .ok (.aload_n 2, 1) := by decide +kernel
theorem dX4_doBuilt_39 : decode cX4_doBuilt 39 = .ok (.iload_n 3, 1) := by decide +kernel
theorem dX4_doBuilt_40 : decode cX4_doBuilt 40 = .ok (.invokevirtual 104, 3) := by decide +kernel
theorem dX4_doBuilt_43 : decode cX4_doBuilt 43 = .ok (.ireturn, 1) := by decide +kernel
theorem dX4_doBuilt_44 : decode cX4_doBuilt 44 = .ok (.aload_n 0, 1) := by decide +kernel
theorem dX4_doBuilt_45 : decode cX4_doBuilt 45 = .ok (.aload_n 1, 1) := by decide +kernel
theorem dX4_doBuilt_46 : decode cX4_doBuilt 46 = .ok (.aload_n 2, 1) := by decide +kernel
theorem dX4_doBuilt_47 : decode cX4_doBuilt 47 = .ok (.iload_n 3, 1) := by decide +kernel
theorem dX4_doBuilt_48 : decode cX4_doBuilt 48 = .ok (.invokevirtual 107, 3) := by decide +kernel
theorem dX4_doBuilt_51 : decode cX4_doBuilt 51 = .ok (.ireturn, 1) := by decide +kernel
theorem dX4_doBuilt_52 : decode cX4_doBuilt 52 = .ok (.aload_n 0, 1) := by decide +kernel
theorem dX4_doBuilt_53 : decode cX4_doBuilt 53 = .ok (.aload_n 0, 1) := by decide +kernel
theorem dX4_doBuilt_54 : decode cX4_doBuilt 54 = .ok (.aload_n 1, 1) := by decide +kernel
theorem dX4_doBuilt_55 : decode cX4_doBuilt 55 = .ok (.aload_n 2, 1) := by decide +kernel
theorem dX4_doBuilt_56 : decode cX4_doBuilt 56 = .ok (.invokevirtual 110, 3) := by decide +kernel
theorem dX4_doBuilt_59 : decode cX4_doBuilt 59 = .ok (.ifCond .eq 10, 3) := by decide +kernel
theorem dX4_doBuilt_62 : decode cX4_doBuilt 62 = .ok (.aload_n 1, 1) := by decide +kernel
theorem dX4_doBuilt_63 : decode cX4_doBuilt 63 = .ok (.getfield 114, 3) := by decide +kernel
theorem dX4_doBuilt_66 : decode cX4_doBuilt 66 = .ok (.goto 7, 3) := by decide +kernel
theorem dX4_doBuilt_69 : decode cX4_doBuilt 69 = .ok (.aload_n 1, 1) := by decide +kernel
theorem dX4_doBuilt_70 : decode cX4_doBuilt 70 = .ok (.getfield 117, 3) := by decide +kernel
theorem dX4_doBuilt_73 : decode cX4_doBuilt 73 = .ok (.aload_n 2, 1) := by decide +kernel
theorem dX4_doBuilt_74 : decode cX4_doBuilt 74 = .ok (.iload_n 3, 1) := by decide +kernel
theorem dX4_doBuilt_75 : decode cX4_doBuilt 75 = .ok (.invokevirtual 34, 3) := by decide +kernel
theorem dX4_doBuilt_78 : decode cX4_doBuilt 78 = .ok (.ireturn, 1) := by decide +kernel
theorem dX4_doBuilt_79 : decode cX4_doBuilt 79 = .ok (.aload_n 0, 1) := by decide +kernel
theorem dX4_doBuilt_80 : decode cX4_doBuilt 80 = .ok (.aload_n 1, 1) := by decide +kernel
theorem dX4_doBuilt_81 : decode cX4_doBuilt 81 = .ok (.aload_n 2, 1) := by decide +kernel
theorem dX4_doBuilt_82 : decode cX4_doBuilt 82 = .ok (.iload_n 3, 1) := by decide +kernel
theorem dX4_doBuilt_83 : decode cX4_doBuilt 83 = .ok (.invokevirtual 120, 3) := by decide +kernel
theorem dX4_doBuilt_86 : decode cX4_doBuilt 86 = .ok (.ireturn, 1) := by decide +kernel
theorem dX4_doBuilt_87 : decode cX4_doBuilt 87 = .ok (.aload_n 0, 1) := by decide +kernel
theorem dX4_doBuilt_88 : decode cX4_doBuilt 88 = .ok (.aload_n 1, 1) := by decide +kernel
theorem dX4_doBuilt_89 : decode cX4_doBuilt 89 = .ok (.aload_n 2, 1) := by decide +kernel
theorem dX4_doBuilt_90 : decode cX4_doBuilt 90 = .ok (.iload_n 3, 1) := by decide +kernel
theorem dX4_doBuilt_91 : decode cX4_doBuilt 91 = .ok (.invokevirtual 123, 3) := by decide +kernel
theorem dX4_doBuilt_94 : decode cX4_doBuilt 94 = .ok (.ireturn, 1) := by decide +kernel
theorem dX4_doDip_0 : decode cX4_doDip 0 = .ok (.aload_n 1, 1) := by decide +kernel
theorem dX4_doDip_1 : decode cX4_doDip 1 = .ok (.getfield 126, 3) := by decide +kernel
theorem dX4_doDip_4 : decode cX4_doDip 4 = .ok (.iconst 2, 1) := by decide +kernel
theorem dX4_doDip_5 : decode cX4_doDip 5 = .ok (.if_icmp .ne 5, 3) := by decide +kernel
theorem dX4_doDip_8 : decode cX4_doDip 8 = .ok (.iconst 1, 1) := by decide +kernel
theorem dX4_doDip_9 : decode cX4_doDip 9 = .ok (.ireturn, 1) := by decide +kernel
theorem dX4_doDip_10 : decode cX4_doDip 10 = .ok (.aload_n 1, 1) := by decide +kernel
theorem dX4_doDip_11 : decode cX4_doDip 11 = .ok (.aload_n 2, 1) := by decide +kernel
theorem dX4_doDip_12 : decode cX4_doDip 12 = .ok (.iload_n 3, 1) := by decide +kernel
theorem dX4_doDip_13 : decode cX4_doDip 13 = .ok (.invokevirtual 129, 3) := by decide +kernel
theorem dX4_doDip_16 : decode cX4_doDip 16 = .ok (.istore 4, 2) := by decide +kernel
theorem dX4_doDip_18 : decode cX4_doDip 18 = .ok (.iload 4, 2) := by decide +kernel
theorem dX4_doDip_20 : decode cX4_doDip 20 = .ok (.iconst 1, 1) := by decide +kernel
theorem dX4_doDip_21 : decode cX4_doDip 21 = .ok (.if_icmp .ge 5, 3) := by decide +kernel
theorem dX4_doDip_24 : decode cX4_doDip 24 = .ok (.iconst 2, 1) := by decide +kernel
theorem dX4_doDip_25 : decode cX4_doDip 25 = .ok (.ireturn, 1) := by decide +kernel
theorem dX4_doDip_26 : decode cX4_doDip 26 = .ok (.aload_n 0, 1) := by decide +kernel
theorem dX4_doDip_27 : decode cX4_doDip 27 = .ok (.getfield 15, 3) := by decide +kernel
theorem dX4_doDip_30 : decode cX4_doDip 30 = .ok (.aload_n 1, 1) := by decide +kernel
theorem dX4_doDip_31 : decode cX4_doDip 31 = .ok (.aload_n 2, 1) := by decide +kernel
theorem dX4_doDip_32 : decode cX4_doDip 32 = .ok (.iload_n 3, 1) := by decide +kernel
theorem dX4_doDip_33 : decode cX4_doDip 33 = .ok (.iload 4, 2) := by decide +kernel
theorem dX4_doDip_35 : decode cX4_doDip 35 = .ok (.invokevirtual 133, 3) := by decide +kernel
theorem dX4_doDip_38 : decode cX4_doDip 38 = .ok (.aload_n 0, 1) := by decide +kernel
theorem dX4_doDip_39 : decode cX4_doDip 39 = .ok (.dup, 1) := by decide +kernel
theorem dX4_doDip_40 : decode cX4_doDip 40 = .ok (.getfield 28, 3) := by decide +kernel
theorem dX4_doDip_43 : decode cX4_doDip 43 = .ok (.iload 4, 2) := by decide +kernel
theorem dX4_doDip_45 : decode cX4_doDip 45 = .ok (.iadd, 1) := by decide +kernel
theorem dX4_doDip_46 : decode cX4_doDip 46 = .ok (.putfield 28, 3) := by decide +kernel
theorem dX4_doDip_49 : decode cX4_doDip 49 = .ok (.aload_n 0, 1) := by decide +kernel
theorem dX4_doDip_50 : decode cX4_doDip 50 = .ok (.dup, 1) := by decide +kernel
theorem dX4_doDip_51 : decode cX4_doDip 51 = .ok (.getfield 25, 3) := by decide +kernel
theorem dX4_doDip_54 : decode cX4_doDip 54 = .ok (.iconst 1, 1) := by decide +kernel
theorem dX4_doDip_55 : decode cX4_doDip 55 = .ok (.iadd, 1) := by decide +kernel
theorem dX4_doDip_56 : decode cX4_doDip 56 = .ok (.putfield 25, 3) := by decide +kernel
theorem dX4_doDip_59 : decode cX4_doDip 59 = .ok (.iconst 0, 1) := by decide +kernel
