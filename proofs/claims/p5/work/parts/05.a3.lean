theorem dX10_dips_15 : decode cX10_dips 15 = .ok (.iaload, 1) := by decide +kernel
theorem dX10_dips_16 : decode cX10_dips 16 = .ok (.iload 4, 2) := by decide +kernel
theorem dX10_dips_18 : decode cX10_dips 18 = .ok (.isub, 1) := by decide +kernel
theorem dX10_dips_19 : decode cX10_dips 19 = .ok (.iastore, 1) := by decide +kernel
theorem dX10_dips_20 : decode cX10_dips 20 = .ok (.aload_n 0, 1) := by decide +kernel
theorem dX10_dips_21 : decode cX10_dips 21 = .ok (.getfield 38, 3) := by decide +kernel
theorem dX10_dips_24 : decode cX10_dips 24 = .ok (.iload_n 1, 1) := by decide +kernel
theorem dX10_dips_25 : decode cX10_dips 25 = .ok (.dup2, 1) := by decide +kernel
theorem dX10_dips_26 : decode cX10_dips 26 = .ok (.iaload, 1) := by decide +kernel
theorem dX10_dips_27 : decode cX10_dips 27 = .ok (.iload 4, 2) := by decide +kernel
theorem dX10_dips_29 : decode cX10_dips 29 = .ok (.iadd, 1) := by decide +kernel
theorem dX10_dips_30 : decode cX10_dips 30 = .ok (.iastore, 1) := by decide +kernel
theorem dX10_dips_31 : decode cX10_dips 31 = .ok (.aload_n 0, 1) := by decide +kernel
theorem dX10_dips_32 : decode cX10_dips 32 = .ok (.getfield 16, 3) := by decide +kernel
theorem dX10_dips_35 : decode cX10_dips 35 = .ok (.iload_n 2, 1) := by decide +kernel
theorem dX10_dips_36 : decode cX10_dips 36 = .ok (.dup2, 1) := by decide +kernel
theorem dX10_dips_37 : decode cX10_dips 37 = .ok (.iaload, 1) := by decide +kernel
theorem dX10_dips_38 : decode cX10_dips 38 = .ok (.iload_n 3, 1) := by decide +kernel
theorem dX10_dips_39 : decode cX10_dips 39 = .ok (.iadd, 1) := by decide +kernel
theorem dX10_dips_40 : decode cX10_dips 40 = .ok (.iastore, 1) := by decide +kernel
theorem dX10_dips_41 : decode cX10_dips 41 = .ok (.aload_n 0, 1) := by decide +kernel
theorem dX10_dips_42 : decode cX10_dips 42 = .ok (.getfield 16, 3) := by decide +kernel
theorem dX10_dips_45 : decode cX10_dips 45 = .ok (.iload_n 2, 1) := by decide +kernel
theorem dX10_dips_46 : decode cX10_dips 46 = .ok (.iaload, 1) := by decide +kernel
theorem dX10_dips_47 : decode cX10_dips 47 = .ok (.bipush 60, 2) := by decide +kernel
theorem dX10_dips_49 : decode cX10_dips 49 = .ok (.if_icmp .le 10, 3) := by decide +kernel
theorem dX10_dips_52 : decode cX10_dips 52 = .ok (.aload_n 0, 1) := by decide +kernel
theorem dX10_dips_53 : decode cX10_dips 53 = .ok (.getfield 19, 3) := by decide +kernel
theorem dX10_dips_56 : decode cX10_dips 56 = .ok (.iload_n 2, 1) := by decide +kernel
theorem dX10_dips_57 : decode cX10_dips 57 = .ok (.iconst 1, 1) := by decide +kernel
theorem dX10_dips_58 : decode cX10_dips 58 = .ok (.iastore, 1) := by decide +kernel
theorem dX10_dips_59 : decode cX10_dips 59 = .ok (.aload_n 0, 1) := by decide +kernel
theorem dX10_dips_60 : decode cX10_dips 60 = .ok (.getfield 13, 3) := by decide +kernel
theorem dX10_dips_63 : decode cX10_dips 63 = .ok (.iload_n 2, 1) := by decide +kernel
theorem dX10_dips_64 : decode cX10_dips 64 = .ok (.dup2, 1) := by decide +kernel
theorem dX10_dips_65 : decode cX10_dips 65 = .ok (.iaload, 1) := by decide +kernel
theorem dX10_dips_66 : decode cX10_dips 66 = .ok (.iload_n 3, 1) := by decide +kernel
theorem dX10_dips_67 : decode cX10_dips 67 = .ok (.isub, 1) := by decide +kernel
theorem dX10_dips_68 : decode cX10_dips 68 = .ok (.iastore, 1) := by decide +kernel
theorem dX10_dips_69 : decode cX10_dips 69 = .ok (.aload_n 0, 1) := by decide +kernel
theorem dX10_dips_70 : decode cX10_dips 70 = .ok (.getfield 13, 3) := by decide +kernel
theorem dX10_dips_73 : decode cX10_dips 73 = .ok (.iload_n 2, 1) := by decide +kernel
theorem dX10_dips_74 : decode cX10_dips 74 = .ok (.iaload, 1) := by decide +kernel
theorem dX10_dips_75 : decode cX10_dips 75 = .ok (.iconst 1, 1) := by decide +kernel
theorem dX10_dips_76 : decode cX10_dips 76 = .ok (.if_icmp .ge 17, 3) := by decide +kernel
theorem dX10_dips_79 : decode cX10_dips 79 = .ok (.aload_n 0, 1) := by decide +kernel
theorem dX10_dips_80 : decode cX10_dips 80 = .ok (.getfield 13, 3) := by decide +kernel
theorem dX10_dips_83 : decode cX10_dips 83 = .ok (.iload_n 2, 1) := by decide +kernel
theorem dX10_dips_84 : decode cX10_dips 84 = .ok (.iconst 0, 1) := by decide +kernel
theorem dX10_dips_85 : decode cX10_dips 85 = .ok (.iastore, 1) := by decide +kernel
theorem dX10_dips_86 : decode cX10_dips 86 = .ok (.aload_n 0, 1) := by decide +kernel
theorem dX10_dips_87 : decode cX10_dips 87 = .ok (.getfield 19, 3) := by decide +kernel
theorem dX10_dips_90 : decode cX10_dips 90 = .ok (.iload_n 2, 1) := by decide +kernel
theorem dX10_dips_91 : decode cX10_dips 91 = .ok (.iconst 2, 1) := by decide +kernel
theorem dX10_dips_92 : decode cX10_dips 92 = .ok (.iastore, 1) := by decide +kernel
theorem dX10_dips_93 : decode cX10_dips 93 = .ok (.aload_n 0, 1) := by decide +kernel
theorem dX10_dips_94 : decode cX10_dips 94 = .ok (.getfield 28, 3) := by decide +kernel
theorem dX10_dips_97 : decode cX10_dips 97 = .ok (.iload_n 2, 1) := by decide +kernel
theorem dX10_dips_98 : decode cX10_dips 98 = .ok (.iconst 1, 1) := by decide +kernel
theorem dX10_dips_99 : decode cX10_dips 99 = .ok (.bastore, 1) := by decide +kernel
theorem dX10_dips_100 : decode cX10_dips 100 = .ok (.aload_n 0, 1) := by decide +kernel
theorem dX10_dips_101 : decode cX10_dips 101 = .ok (.getfield 22, 3) := by decide +kernel
theorem dX10_dips_104 : decode cX10_dips 104 = .ok (.iload_n 2, 1) := by decide +kernel
theorem dX10_dips_105 : decode cX10_dips 105 = .ok (.dup2, 1) := by decide +kernel
theorem dX10_dips_106 : decode cX10_dips 106 = .ok (.iaload, 1) := by decide +kernel
theorem dX10_dips_107 : decode cX10_dips 107 = .ok (.iconst 1, 1) := by decide +kernel
theorem dX10_dips_108 : decode cX10_dips 108 = .ok (.iadd, 1) := by decide +kernel
theorem dX10_dips_109 : decode cX10_dips 109 = .ok (.iastore, 1) := by decide +kernel
theorem dX10_dips_110 : decode cX10_dips 110 = .ok (.aload_n 0, 1) := by decide +kernel
theorem dX10_dips_111 : decode cX10_dips 111 = .ok (.getfield 25, 3) := by decide +kernel
theorem dX10_dips_114 : decode cX10_dips 114 = .ok (.iload_n 2, 1) := by decide +kernel
theorem dX10_dips_115 : decode cX10_dips 115 = .ok (.dup2, 1) := by decide +kernel
theorem dX10_dips_116 : decode cX10_dips 116 = .ok (.iaload, 1) := by decide +kernel
theorem dX10_dips_117 : decode cX10_dips 117 = .ok (.iconst 1, 1) := by decide +kernel
theorem dX10_dips_118 : decode cX10_dips 118 = .ok (.iload_n 1, 1) := by decide +kernel
theorem dX10_dips_119 : decode cX10_dips 119 = .ok (.ishl, 1) := by decide +kernel
theorem dX10_dips_120 : decode cX10_dips 120 = .ok (.ior, 1) := by decide +kernel
theorem dX10_dips_121 : decode cX10_dips 121 = .ok (.iastore, 1) := by decide +kernel
theorem dX10_dips_122 : decode cX10_dips 122 = .ok (.aload_n 0, 1) := by decide +kernel
theorem dX10_dips_123 : decode cX10_dips 123 = .ok (.getfield 47, 3) := by decide +kernel
theorem dX10_dips_126 : decode cX10_dips 126 = .ok (.iload_n 1, 1) := by decide +kernel
theorem dX10_dips_127 : decode cX10_dips 127 = .ok (.dup2, 1) := by decide +kernel
theorem dX10_dips_128 : decode cX10_dips 128 = .ok (.iaload, 1) := by decide +kernel
theorem dX10_dips_129 : decode cX10_dips 129 = .ok (.iconst 1, 1) := by decide +kernel
theorem dX10_dips_130 : decode cX10_dips 130 = .ok (.iload_n 2, 1) := by decide +kernel
theorem dX10_dips_131 : decode cX10_dips 131 = .ok (.ishl, 1) := by decide +kernel
theorem dX10_dips_132 : decode cX10_dips 132 = .ok (.ior, 1) := by decide +kernel
theorem dX10_dips_133 : decode cX10_dips 133 = .ok (.iastore, 1) := by decide +kernel
theorem dX10_dips_134 : decode cX10_dips 134 = .ok (.aload_n 0, 1) := by decide +kernel
theorem dX10_dips_135 : decode cX10_dips 135 = .ok (.getfield 50, 3) := by decide +kernel
theorem dX10_dips_138 : decode cX10_dips 138 = .ok (.iload_n 1, 1) := by decide +kernel
theorem dX10_dips_139 : decode cX10_dips 139 = .ok (.dup2, 1) := by decide +kernel
theorem dX10_dips_140 : decode cX10_dips 140 = .ok (.iaload, 1) := by decide +kernel
theorem dX10_dips_141 : decode cX10_dips 141 = .ok (.iconst 1, 1) := by decide +kernel
theorem dX10_dips_142 : decode cX10_dips 142 = .ok (.iadd, 1) := by decide +kernel
theorem dX10_dips_143 : decode cX10_dips 143 = .ok (.iastore, 1) := by decide +kernel
theorem dX10_dips_144 : decode cX10_dips 144 = .ok (.iload 4, 2) := by decide +kernel
theorem dX10_dips_146 : decode cX10_dips 146 = .ok (.ireturn, 1) := by decide +kernel
theorem dX10_dip_0 : decode cX10_dip 0 = .ok (.aload_n 0, 1) := by decide +kernel
theorem dX10_dip_1 : decode cX10_dip 1 = .ok (.iload_n 1, 1) := by decide +kernel
theorem dX10_dip_2 : decode cX10_dip 2 = .ok (.invokevirtual 141, 3) := by decide +kernel
theorem dX10_dip_5 : decode cX10_dip 5 = .ok (.ifCond .eq 35, 3) := by decide +kernel
theorem dX10_dip_8 : decode cX10_dip 8 = .ok (.aload_n 0, 1) := by decide +kernel
theorem dX10_dip_9 : decode cX10_dip 9 = .ok (.iload_n 2, 1) := by decide +kernel
theorem dX10_dip_10 : decode cX10_dip 10 = .ok (.invokevirtual 115, 3) := by decide +kernel
theorem dX10_dip_13 : decode cX10_dip 13 = .ok (.ifCond .eq 27, 3) := by decide +kernel
theorem dX10_dip_16 : decode cX10_dip 16 = .ok (.aload_n 0, 1) := by decide +kernel
theorem dX10_dip_17 : decode cX10_dip 17 = .ok (.iload_n 3, 1) := by decide +kernel
theorem dX10_dip_18 : decode cX10_dip 18 = .ok (.iconst 1, 1) := by decide +kernel
theorem dX10_dip_19 : decode cX10_dip 19 = .ok (.if_icmp .lt 13, 3) := by decide +kernel
theorem dX10_dip_22 : decode cX10_dip 22 = .ok (.iload_n 3, 1) := by decide +kernel
theorem dX10_dip_23 : decode cX10_dip 23 = .ok (.bipush 20, 2) := by decide +kernel
theorem dX10_dip_25 : decode cX10_dip 25 = .ok (.if_icmp .gt 7, 3) := by decide +kernel
theorem dX10_dip_28 : decode cX10_dip 28 = .ok (.iconst 1, 1) := by decide +kernel
theorem dX10_dip_29 : decode cX10_dip 29 = .ok (.goto 4, 3) := by decide +kernel
theorem dX10_dip_32 : decode cX10_dip 32 = .ok (.iconst 0, 1) := by decide +kernel
theorem dX10_dip_33 : decode cX10_dip 33 = .ok (.iconst 2, 1) := by decide +kernel
theorem dX10_dip_34 : decode cX10_dip 34 = .ok (.invokevirtual 108, 3) := by decide +kernel
theorem dX10_dip_37 : decode cX10_dip 37 = .ok (.ifCond .ne 5, 3) := by decide +kernel
theorem dX10_dip_40 : decode cX10_dip 40 = .ok (.iconst 0, 1) := by decide +kernel
theorem dX10_dip_41 : decode cX10_dip 41 = .ok (.ireturn, 1) := by decide +kernel
theorem dX10_dip_42 : decode cX10_dip 42 = .ok (.aload_n 0, 1) := by decide +kernel
theorem dX10_dip_43 : decode cX10_dip 43 = .ok (.getfield 19, 3) := by decide +kernel
theorem dX10_dip_46 : decode cX10_dip 46 = .ok (.iload_n 2, 1) := by decide +kernel
theorem dX10_dip_47 : decode cX10_dip 47 = .ok (.iaload, 1) := by decide +kernel
theorem dX10_dip_48 : decode cX10_dip 48 = .ok (.iconst 2, 1) := by decide +kernel
theorem dX10_dip_49 : decode cX10_dip 49 = .ok (.if_icmp .eq 11, 3) := by decide +kernel
theorem dX10_dip_52 : decode cX10_dip 52 = .ok (.aload_n 0, 1) := by decide +kernel
theorem dX10_dip_53 : decode cX10_dip 53 = .ok (.iload_n 1, 1) := by decide +kernel
theorem dX10_dip_54 : decode cX10_dip 54 = .ok (.invokevirtual 144, 3) := by decide +kernel
theorem dX10_dip_57 : decode cX10_dip 57 = .ok (.ifCond .eq 7, 3) := by decide +kernel
theorem dX10_dip_60 : decode cX10_dip 60 = .ok (.iconst (-1), 1) := by decide +kernel
theorem dX10_dip_61 : decode cX10_dip 61 = .ok (.goto 10, 3) := by decide +kernel
theorem dX10_dip_64 : decode cX10_dip 64 = .ok (.aload_n 0, 1) := by decide +kernel
theorem dX10_dip_65 : decode cX10_dip 65 = .ok (.iload_n 1, 1) := by decide +kernel
theorem dX10_dip_66 : decode cX10_dip 66 = .ok (.iload_n 2, 1) := by decide +kernel
theorem dX10_dip_67 : decode cX10_dip 67 = .ok (.iload_n 3, 1) := by decide +kernel
theorem dX10_dip_68 : decode cX10_dip 68 = .ok (.invokevirtual 147, 3) := by decide +kernel
theorem dX10_dip_71 : decode cX10_dip 71 = .ok (.ireturn, 1) := by decide +kernel
theorem dX10_airs_0 : decode cX10_airs 0 = .ok (.aload_n 0, 1) := by decide +kernel
theorem dX10_airs_1 : decode cX10_airs 1 = .ok (.getfield 38, 3) := by decide +kernel
theorem dX10_airs_4 : decode cX10_airs 4 = .ok (.iload_n 1, 1) := by decide +kernel
theorem dX10_airs_5 : decode cX10_airs 5 = .ok (.iaload, 1) := by decide +kernel
theorem dX10_airs_6 : decode cX10_airs 6 = .ok (.bipush 8, 2) := by decide +kernel
theorem dX10_airs_8 : decode cX10_airs 8 = .ok (.idiv, 1) := by decide +kernel
theorem dX10_airs_9 : decode cX10_airs 9 = .ok (.istore_n 2, 1) := by decide +kernel
theorem dX10_airs_10 : decode cX10_airs 10 = .ok (.aload_n 0, 1) := by decide +kernel
theorem dX10_airs_11 : decode cX10_airs 11 = .ok (.getfield 41, 3) := by decide +kernel
theorem dX10_airs_14 : decode cX10_airs 14 = .ok (.iload_n 1, 1) := by decide +kernel
theorem dX10_airs_15 : decode cX10_airs 15 = .ok (.dup2, 1) := by decide +kernel
theorem dX10_airs_16 : decode cX10_airs 16 = .ok (.iaload, 1) := by decide +kernel
theorem dX10_airs_17 : decode cX10_airs 17 = .ok (.aload_n 0, 1) := by decide +kernel
theorem dX10_airs_18 : decode cX10_airs 18 = .ok (.getfield 38, 3) := by decide +kernel
theorem dX10_airs_21 : decode cX10_airs 21 = .ok (.iload_n 1, 1) := by decide +kernel
theorem dX10_airs_22 : decode cX10_airs 22 = .ok (.iaload, 1) := by decide +kernel
theorem dX10_airs_23 : decode cX10_airs 23 = .ok (.iload_n 2, 1) := by decide +kernel
theorem dX10_airs_24 : decode cX10_airs 24 = .ok (.isub, 1) := by decide +kernel
theorem dX10_airs_25 : decode cX10_airs 25 = .ok (.iadd, 1) := by decide +kernel
theorem dX10_airs_26 : decode cX10_airs 26 = .ok (.iastore, 1) := by decide +kernel
theorem dX10_airs_27 : decode cX10_airs 27 = .ok (.aload_n 0, 1) := by decide +kernel
theorem dX10_airs_28 : decode cX10_airs 28 = .ok (.getfield 38, 3) := by decide +kernel
theorem dX10_airs_31 : decode cX10_airs 31 = .ok (.iload_n 1, 1) := by decide +kernel
theorem dX10_airs_32 : decode cX10_airs 32 = .ok (.iconst 0, 1) := by decide +kernel
theorem dX10_airs_33 : decode cX10_airs 33 = .ok (.iastore, 1) := by decide +kernel
theorem dX10_airs_34 : decode cX10_airs 34 = .ok (.aload_n 0, 1) := by decide +kernel
theorem dX10_airs_35 : decode cX10_airs 35 = .ok (.dup, 1) := by decide +kernel
theorem dX10_airs_36 : decode cX10_airs 36 = .ok (.getfield 149, 3) := by decide +kernel
theorem dX10_airs_39 : decode cX10_airs 39 = .ok (.iload_n 2, 1) := by decide +kernel
theorem dX10_airs_40 : decode cX10_airs 40 = .ok (.iadd, 1) := by decide +kernel
theorem dX10_airs_41 : decode cX10_airs 41 = .ok (.putfield 149, 3) := by decide +kernel
theorem dX10_airs_44 : decode cX10_airs 44 = .ok (.iload_n 2, 1) := by decide +kernel
theorem dX10_airs_45 : decode cX10_airs 45 = .ok (.ireturn, 1) := by decide +kernel
theorem dX10_washes_0 : decode cX10_washes 0 = .ok (.aload_n 0, 1) := by decide +kernel
theorem dX10_washes_1 : decode cX10_washes 1 = .ok (.getfield 38, 3) := by decide +kernel
theorem dX10_washes_4 : decode cX10_washes 4 = .ok (.iload_n 1, 1) := by decide +kernel
theorem dX10_washes_5 : decode cX10_washes 5 = .ok (.iaload, 1) := by decide +kernel
theorem dX10_washes_6 : decode cX10_washes 6 = .ok (.aload_n 0, 1) := by decide +kernel
theorem dX10_washes_7 : decode cX10_washes 7 = .ok (.getfield 41, 3) := by decide +kernel
theorem dX10_washes_10 : decode cX10_washes 10 = .ok (.iload_n 1, 1) := by decide +kernel
theorem dX10_washes_11 : decode cX10_washes 11 = .ok (.iaload, 1) := by decide +kernel
theorem dX10_washes_12 : decode cX10_washes 12 = .ok (.bipush 20, 2) := by decide +kernel
theorem dX10_washes_14 : decode cX10_washes 14 = .ok (.idiv, 1) := by decide +kernel
theorem dX10_washes_15 : decode cX10_washes 15 = .ok (.iadd, 1) := by decide +kernel
theorem dX10_washes_16 : decode cX10_washes 16 = .ok (.istore_n 2, 1) := by decide +kernel
theorem dX10_washes_17 : decode cX10_washes 17 = .ok (.aload_n 0, 1) := by decide +kernel
theorem dX10_washes_18 : decode cX10_washes 18 = .ok (.getfield 41, 3) := by decide +kernel
theorem dX10_washes_21 : decode cX10_washes 21 = .ok (.iload_n 1, 1) := by decide +kernel
theorem dX10_washes_22 : decode cX10_washes 22 = .ok (.dup2, 1) := by decide +kernel
theorem dX10_washes_23 : decode cX10_washes 23 = .ok (.iaload, 1) := by decide +kernel
theorem dX10_washes_24 : decode cX10_washes 24 = .ok (.aload_n 0, 1) := by decide +kernel
theorem dX10_washes_25 : decode cX10_washes 25 = .ok (.getfield 41, 3) := by decide +kernel
theorem dX10_washes_28 : decode cX10_washes 28 = .ok (.iload_n 1, 1) := by decide +kernel
theorem dX10_washes_29 : decode cX10_washes 29 = .ok (.iaload, 1) := by decide +kernel
theorem dX10_washes_30 : decode cX10_washes 30 = .ok (.bipush 20, 2) := by decide +kernel
theorem dX10_washes_32 : decode cX10_washes 32 = .ok (.idiv, 1) := by decide +kernel
theorem dX10_washes_33 : decode cX10_washes 33 = .ok (.isub, 1) := by decide +kernel
theorem dX10_washes_34 : decode cX10_washes 34 = .ok (.iastore, 1) := by decide +kernel
theorem dX10_washes_35 : decode cX10_washes 35 = .ok (.aload_n 0, 1) := by decide +kernel
theorem dX10_washes_36 : decode cX10_washes 36 = .ok (.getfield 38, 3) := by decide +kernel
theorem dX10_washes_39 : decode cX10_washes 39 = .ok (.iload_n 1, 1) := by decide +kernel
theorem dX10_washes_40 : decode cX10_washes 40 = .ok (.iconst 0, 1) := by decide +kernel
theorem dX10_washes_41 : decode cX10_washes 41 = .ok (.iastore, 1) := by decide +kernel
theorem dX10_washes_42 : decode cX10_washes 42 = .ok (.aload_n 0, 1) := by decide +kernel
theorem dX10_washes_43 : decode cX10_washes 43 = .ok (.dup, 1) := by decide +kernel
theorem dX10_washes_44 : decode cX10_washes 44 = .ok (.getfield 149, 3) := by decide +kernel
theorem dX10_washes_47 : decode cX10_washes 47 = .ok (.iload_n 2, 1) := by decide +kernel
theorem dX10_washes_48 : decode cX10_washes 48 = .ok (.iadd, 1) := by decide +kernel
theorem dX10_washes_49 : decode cX10_washes 49 = .ok (.putfield 149, 3) := by decide +kernel
theorem dX10_washes_52 : decode cX10_washes 52 = .ok (.iload_n 2, 1) := by decide +kernel
theorem dX10_washes_53 : decode cX10_washes 53 = .ok (.ireturn, 1) := by decide +kernel
theorem dX10_treat_0 : decode cX10_treat 0 = .ok (.aload_n 0, 1) := by decide +kernel
theorem dX10_treat_1 : decode cX10_treat 1 = .ok (.iload_n 1, 1) := by decide +kernel
theorem dX10_treat_2 : decode cX10_treat 2 = .ok (.invokevirtual 141, 3) := by decide +kernel
theorem dX10_treat_5 : decode cX10_treat 5 = .ok (.ifCond .eq 25, 3) := by decide +kernel
theorem dX10_treat_8 : decode cX10_treat 8 = .ok (.aload_n 0, 1) := by decide +kernel
theorem dX10_treat_9 : decode cX10_treat 9 = .ok (.iload_n 2, 1) := by decide +kernel
theorem dX10_treat_10 : decode cX10_treat 10 = .ok (.ifCond .lt 12, 3) := by decide +kernel
theorem dX10_treat_13 : decode cX10_treat 13 = .ok (.iload_n 2, 1) := by decide +kernel
theorem dX10_treat_14 : decode cX10_treat 14 = .ok (.iconst 2, 1) := by decide +kernel
theorem dX10_treat_15 : decode cX10_treat 15 = .ok (.if_icmp .gt 7, 3) := by decide +kernel
theorem dX10_treat_18 : decode cX10_treat 18 = .ok (.iconst 1, 1) := by decide +kernel
theorem dX10_treat_19 : decode cX10_treat 19 = .ok (.goto 4, 3) := by decide +kernel
theorem dX10_treat_22 : decode cX10_treat 22 = .ok (.iconst 0, 1) := by decide +kernel
theorem dX10_treat_23 : decode cX10_treat 23 = .ok (.iconst 2, 1) := by decide +kernel
theorem dX10_treat_24 : decode cX10_treat 24 = .ok (.invokevirtual 108, 3) := by decide +kernel
theorem dX10_treat_27 : decode cX10_treat 27 = .ok (.ifCond .ne 5, 3) := by decide +kernel
theorem dX10_treat_30 : decode cX10_treat 30 = .ok (.iconst 0, 1) := by decide +kernel
theorem dX10_treat_31 : decode cX10_treat 31 = .ok (.ireturn, 1) := by decide +kernel
theorem dX10_treat_32 : decode cX10_treat 32 = .ok (.aload_n 0, 1) := by decide +kernel
theorem dX10_treat_33 : decode cX10_treat 33 = .ok (.iload_n 1, 1) := by decide +kernel
theorem dX10_treat_34 : decode cX10_treat 34 = .ok (.invokevirtual 144, 3) := by decide +kernel
theorem dX10_treat_37 : decode cX10_treat 37 = .ok (.ifCond .eq 5, 3) := by decide +kernel
theorem dX10_treat_40 : decode cX10_treat 40 = .ok (.iconst (-1), 1) := by decide +kernel
theorem dX10_treat_41 : decode cX10_treat 41 = .ok (.ireturn, 1) := by decide +kernel
theorem dX10_treat_42 : decode cX10_treat 42 = .ok (.iload_n 2, 1) := by decide +kernel
theorem dX10_treat_43 : decode cX10_treat 43 = .ok (.iconst 1, 1) := by decide +kernel
theorem dX10_treat_44 : decode cX10_treat 44 = .ok (.if_icmp .ne 9, 3) := by decide +kernel
theorem dX10_treat_47 : decode cX10_treat 47 = .ok (.aload_n 0, 1) := by decide +kernel
theorem dX10_treat_48 : decode cX10_treat 48 = .ok (.iload_n 1, 1) := by decide +kernel
theorem dX10_treat_49 : decode cX10_treat 49 = .ok (.invokevirtual 152, 3) := by decide +kernel
theorem dX10_treat_52 : decode cX10_treat 52 = .ok (.ireturn, 1) := by decide +kernel
theorem dX10_treat_53 : decode cX10_treat 53 = .ok (.aload_n 0, 1) := by decide +kernel
theorem dX10_treat_54 : decode cX10_treat 54 = .ok (.iload_n 1, 1) := by decide +kernel
theorem dX10_treat_55 : decode cX10_treat 55 = .ok (.invokevirtual 156, 3) := by decide +kernel
theorem dX10_treat_58 : decode cX10_treat 58 = .ok (.istore_n 3, 1) := by decide +kernel
theorem dX10_treat_59 : decode cX10_treat 59 = .ok (.iload_n 2, 1) := by decide +kernel
theorem dX10_treat_60 : decode cX10_treat 60 = .ok (.iconst 2, 1) := by decide +kernel
theorem dX10_treat_61 : decode cX10_treat 61 = .ok (.if_icmp .ne 16, 3) := by decide +kernel
theorem dX10_treat_64 : decode cX10_treat 64 = .ok (.aload_n 0, 1) := by decide +kernel
theorem dX10_treat_65 : decode cX10_treat 65 = .ok (.getfield 44, 3) := by decide +kernel
theorem dX10_treat_68 : decode cX10_treat 68 = .ok (.iload_n 1, 1) := by decide +kernel
theorem dX10_treat_69 : decode cX10_treat 69 = .ok (.aload_n 0, 1) := by decide +kernel
theorem dX10_treat_70 : decode cX10_treat 70 = .ok (.getfield 131, 3) := by decide +kernel
theorem dX10_treat_73 : decode cX10_treat 73 = .ok (.bipush 24, 2) := by decide +kernel
theorem dX10_treat_75 : decode cX10_treat 75 = .ok (.idiv, 1) := by decide +kernel
theorem dX10_treat_76 : decode cX10_treat 76 = .ok (.iastore, 1) := by decide +kernel
theorem dX10_treat_77 : decode cX10_treat 77 = .ok (.iload_n 3, 1) := by decide +kernel
theorem dX10_treat_78 : decode cX10_treat 78 = .ok (.ireturn, 1) := by decide +kernel
theorem dX10_put_0 : decode cX10_put 0 = .ok (.aload_n 0, 1) := by decide +kernel
theorem dX10_put_1 : decode cX10_put 1 = .ok (.iconst 0, 1) := by decide +kernel
theorem dX10_put_2 : decode cX10_put 2 = .ok (.putfield 105, 3) := by decide +kernel
theorem dX10_put_5 : decode cX10_put 5 = .ok (.aload_n 0, 1) := by decide +kernel
theorem dX10_put_6 : decode cX10_put 6 = .ok (.getfield 159, 3) := by decide +kernel
theorem dX10_put_9 : decode cX10_put 9 = .ok (.bipush 20, 2) := by decide +kernel
theorem dX10_put_11 : decode cX10_put 11 = .ok (.iadd, 1) := by decide +kernel
theorem dX10_put_12 : decode cX10_put 12 = .ok (.sipush 1500, 3) := by decide +kernel
theorem dX10_put_15 : decode cX10_put 15 = .ok (.if_icmp .le 5, 3) := by decide +kernel
theorem dX10_put_18 : decode cX10_put 18 = .ok (.iconst (-1), 1) := by decide +kernel
theorem dX10_put_19 : decode cX10_put 19 = .ok (.ireturn, 1) := by decide +kernel
theorem dX10_put_20 : decode cX10_put 20 = .ok (.aload_n 0, 1) := by decide +kernel
theorem dX10_put_21 : decode cX10_put 21 = .ok (.iload_n 1, 1) := by decide +kernel
theorem dX10_put_22 : decode cX10_put 22 = .ok (.invokevirtual 162, 3) := by decide +kernel
theorem dX10_put_25 : decode cX10_put 25 = .ok (.aload_n 0, 1) := by decide +kernel
theorem dX10_put_26 : decode cX10_put 26 = .ok (.iload_n 2, 1) := by decide +kernel
theorem dX10_put_27 : decode cX10_put 27 = .ok (.invokevirtual 162, 3) := by decide +kernel
theorem dX10_put_30 : decode cX10_put 30 = .ok (.aload_n 0, 1) := by decide +kernel
theorem dX10_put_31 : decode cX10_put 31 = .ok (.iload_n 3, 1) := by decide +kernel
theorem dX10_put_32 : decode cX10_put 32 = .ok (.invokevirtual 162, 3) := by decide +kernel
theorem dX10_put_35 : decode cX10_put 35 = .ok (.aload_n 0, 1) := by decide +kernel
theorem dX10_put_36 : decode cX10_put 36 = .ok (.iload 4, 2) := by decide +kernel
theorem dX10_put_38 : decode cX10_put 38 = .ok (.invokevirtual 162, 3) := by decide +kernel
theorem dX10_put_41 : decode cX10_put 41 = .ok (.aload_n 0, 1) := by decide +kernel
theorem dX10_put_42 : decode cX10_put 42 = .ok (.iload 5, 2) := by decide +kernel
theorem dX10_put_44 : decode cX10_put 44 = .ok (.invokevirtual 162, 3) := by decide +kernel
theorem dX10_put_47 : decode cX10_put 47 = .ok (.aload_n 0, 1) := by decide +kernel
theorem dX10_put_48 : decode cX10_put 48 = .ok (.getfield 159, 3) := by decide +kernel
theorem dX10_put_51 : decode cX10_put 51 = .ok (.ireturn, 1) := by decide +kernel
theorem dX10_lays_0 : decode cX10_lays 0 = .ok (.bipush 24, 2) := by decide +kernel
theorem dX10_lays_2 : decode cX10_lays 2 = .ok (.istore_n 2, 1) := by decide +kernel
theorem dX10_lays_3 : decode cX10_lays 3 = .ok (.iload_n 2, 1) := by decide +kernel
theorem dX10_lays_4 : decode cX10_lays 4 = .ok (.ifCond .lt 35, 3) := by decide +kernel
theorem dX10_lays_7 : decode cX10_lays 7 = .ok (.aload_n 0, 1) := by decide +kernel
theorem dX10_lays_8 : decode cX10_lays 8 = .ok (.getfield 53, 3) := by decide +kernel
theorem dX10_lays_11 : decode cX10_lays 11 = .ok (.aload_n 0, 1) := by decide +kernel
theorem dX10_lays_12 : decode cX10_lays 12 = .ok (.getfield 159, 3) := by decide +kernel
theorem dX10_lays_15 : decode cX10_lays 15 = .ok (.iload_n 1, 1) := by decide +kernel
theorem dX10_lays_16 : decode cX10_lays 16 = .ok (.iload_n 2, 1) := by decide +kernel
theorem dX10_lays_17 : decode cX10_lays 17 = .ok (.ishr, 1) := by decide +kernel
theorem dX10_lays_18 : decode cX10_lays 18 = .ok (.sipush 255, 3) := by decide +kernel
theorem dX10_lays_21 : decode cX10_lays 21 = .ok (.iand, 1) := by decide +kernel
theorem dX10_lays_22 : decode cX10_lays 22 = .ok (.iastore, 1) := by decide +kernel
theorem dX10_lays_23 : decode cX10_lays 23 = .ok (.aload_n 0, 1) := by decide +kernel
theorem dX10_lays_24 : decode cX10_lays 24 = .ok (.dup, 1) := by decide +kernel
theorem dX10_lays_25 : decode cX10_lays 25 = .ok (.getfield 159, 3) := by decide +kernel
theorem dX10_lays_28 : decode cX10_lays 28 = .ok (.iconst 1, 1) := by decide +kernel
theorem dX10_lays_29 : decode cX10_lays 29 = .ok (.iadd, 1) := by decide +kernel
theorem dX10_lays_30 : decode cX10_lays 30 = .ok (.putfield 159, 3) := by decide +kernel
theorem dX10_lays_33 : decode cX10_lays 33 = .ok (.iinc 2 (-8), 3) := by decide +kernel
theorem dX10_lays_36 : decode cX10_lays 36 = .ok (.goto (-33), 3) := by decide +kernel
theorem dX10_lays_39 : decode cX10_lays 39 = .ok (.return_, 1) := by decide +kernel
theorem dX10_wrong_0 : decode cX10_wrong 0 = .ok (.aload_n 0, 1) := by decide +kernel
theorem dX10_wrong_1 : decode cX10_wrong 1 = .ok (.getfield 165, 3) := by decide +kernel
theorem dX10_wrong_4 : decode cX10_wrong 4 = .ok (.ifCond .ne 13, 3) := by decide +kernel
theorem dX10_wrong_7 : decode cX10_wrong 7 = .ok (.aload_n 0, 1) := by decide +kernel
theorem dX10_wrong_8 : decode cX10_wrong 8 = .ok (.iload_n 1, 1) := by decide +kernel
theorem dX10_wrong_9 : decode cX10_wrong 9 = .ok (.putfield 165, 3) := by decide +kernel
theorem dX10_wrong_12 : decode cX10_wrong 12 = .ok (.aload_n 0, 1) := by decide +kernel
theorem dX10_wrong_13 : decode cX10_wrong 13 = .ok (.iload_n 2, 1) := by decide +kernel
theorem dX10_wrong_14 : decode cX10_wrong 14 = .ok (.putfield 56, 3) := by decide +kernel
theorem dX10_wrong_17 : decode cX10_wrong 17 = .ok (.iconst 0, 1) := by decide +kernel
theorem dX10_wrong_18 : decode cX10_wrong 18 = .ok (.ireturn, 1) := by decide +kernel
theorem dX10_skip_0 : decode cX10_skip 0 = .ok (.aload_n 0, 1) := by decide +kernel
theorem dX10_skip_1 : decode cX10_skip 1 = .ok (.getfield 168, 3) := by decide +kernel
theorem dX10_skip_4 : decode cX10_skip 4 = .ok (.aload_n 0, 1) := by decide +kernel
theorem dX10_skip_5 : decode cX10_skip 5 = .ok (.getfield 171, 3) := by decide +kernel
theorem dX10_skip_8 : decode cX10_skip 8 = .ok (.if_icmp .ge 44, 3) := by decide +kernel
theorem dX10_skip_11 : decode cX10_skip 11 = .ok (.aload_n 0, 1) := by decide +kernel
theorem dX10_skip_12 : decode cX10_skip 12 = .ok (.getfield 53, 3) := by decide +kernel
theorem dX10_skip_15 : decode cX10_skip 15 = .ok (.aload_n 0, 1) := by decide +kernel
theorem dX10_skip_16 : decode cX10_skip 16 = .ok (.getfield 168, 3) := by decide +kernel
theorem dX10_skip_19 : decode cX10_skip 19 = .ok (.iaload, 1) := by decide +kernel
theorem dX10_skip_20 : decode cX10_skip 20 = .ok (.bipush 32, 2) := by decide +kernel
theorem dX10_skip_22 : decode cX10_skip 22 = .ok (.if_icmp .eq 17, 3) := by decide +kernel
theorem dX10_skip_25 : decode cX10_skip 25 = .ok (.aload_n 0, 1) := by decide +kernel
theorem dX10_skip_26 : decode cX10_skip 26 = .ok (.getfield 53, 3) := by decide +kernel
theorem dX10_skip_29 : decode cX10_skip 29 = .ok (.aload_n 0, 1) := by decide +kernel
theorem dX10_skip_30 : decode cX10_skip 30 = .ok (.getfield 168, 3) := by decide +kernel
theorem dX10_skip_33 : decode cX10_skip 33 = .ok (.iaload, 1) := by decide +kernel
theorem dX10_skip_34 : decode cX10_skip 34 = .ok (.bipush 10, 2) := by decide +kernel
theorem dX10_skip_36 : decode cX10_skip 36 = .ok (.if_icmp .ne 16, 3) := by decide +kernel
theorem dX10_skip_39 : decode cX10_skip 39 = .ok (.aload_n 0, 1) := by decide +kernel
theorem dX10_skip_40 : decode cX10_skip 40 = .ok (.dup, 1) := by decide +kernel
theorem dX10_skip_41 : decode cX10_skip 41 = .ok (.getfield 168, 3) := by decide +kernel
theorem dX10_skip_44 : decode cX10_skip 44 = .ok (.iconst 1, 1) := by decide +kernel
theorem dX10_skip_45 : decode cX10_skip 45 = .ok (.iadd, 1) := by decide +kernel
theorem dX10_skip_46 : decode cX10_skip 46 = .ok (.putfield 168, 3) := by decide +kernel
theorem dX10_skip_49 : decode cX10_skip 49 = .ok (.goto (-49), 3) := by decide +kernel
theorem dX10_skip_52 : decode cX10_skip 52 = .ok (.return_, 1) := by decide +kernel
theorem dX10_isLetter_0 : decode cX10_isLetter 0 = .ok (.iload_n 0, 1) := by decide +kernel
theorem dX10_isLetter_1 : decode cX10_isLetter 1 = .ok (.bipush 97, 2) := by decide +kernel
theorem dX10_isLetter_3 : decode cX10_isLetter 3 = .ok (.if_icmp .lt 13, 3) := by decide +kernel
theorem dX10_isLetter_6 : decode cX10_isLetter 6 = .ok (.iload_n 0, 1) := by decide +kernel
theorem dX10_isLetter_7 : decode cX10_isLetter 7 = .ok (.bipush 122, 2) := by decide +kernel
theorem dX10_isLetter_9 : decode cX10_isLetter 9 = .ok (.if_icmp .gt 7, 3) := by decide +kernel
theorem dX10_isLetter_12 : decode cX10_isLetter 12 = .ok (.iconst 1, 1) := by decide +kernel
theorem dX10_isLetter_13 : decode cX10_isLetter 13 = .ok (.goto 4, 3) := by decide +kernel
theorem dX10_isLetter_16 : decode cX10_isLetter 16 = .ok (.iconst 0, 1) := by decide +kernel
theorem dX10_isLetter_17 : decode cX10_isLetter 17 = .ok (.ireturn, 1) := by decide +kernel
theorem dX10_isDigit_0 : decode cX10_isDigit 0 = .ok (.iload_n 0, 1) := by decide +kernel
theorem dX10_isDigit_1 : decode cX10_isDigit 1 = .ok (.bipush 48, 2) := by decide +kernel
theorem dX10_isDigit_3 : decode cX10_isDigit 3 = .ok (.if_icmp .lt 13, 3) := by decide +kernel
theorem dX10_isDigit_6 : decode cX10_isDigit 6 = .ok (.iload_n 0, 1) := by decide +kernel
theorem dX10_isDigit_7 : decode cX10_isDigit 7 = .ok (.bipush 57, 2) := by decide +kernel
theorem dX10_isDigit_9 : decode cX10_isDigit 9 = .ok (.if_icmp .gt 7, 3) := by decide +kernel
theorem dX10_isDigit_12 : decode cX10_isDigit 12 = .ok (.iconst 1, 1) := by decide +kernel
theorem dX10_isDigit_13 : decode cX10_isDigit 13 = .ok (.goto 4, 3) := by decide +kernel
theorem dX10_isDigit_16 : decode cX10_isDigit 16 = .ok (.iconst 0, 1) := by decide +kernel
theorem dX10_isDigit_17 : decode cX10_isDigit 17 = .ok (.ireturn, 1) := by decide +kernel
theorem dX10_nameOf_0 : decode cX10_nameOf 0 = .ok (.iload_n 0, 1) := by decide +kernel
theorem dX10_nameOf_1 : decode cX10_nameOf 1 = .ok (.tableswitch 141 0 17 #[87, 90, 93, 96, 99, 102, 105, 108, 111, 114, 117, 120, 123, 126, 129, 132, 135, 138], 87) := by decide +kernel
theorem dX10_nameOf_88 : decode cX10_nameOf 88 = .ok (.ldc 174, 2) := by decide +kernel
theorem dX10_nameOf_90 : decode cX10_nameOf 90 = .ok (.areturn, 1) := by decide +kernel
theorem dX10_nameOf_91 : decode cX10_nameOf 91 = .ok (.ldc 176, 2) := by decide +kernel
theorem dX10_nameOf_93 : decode cX10_nameOf 93 = .ok (.areturn, 1) := by decide +kernel
theorem dX10_nameOf_94 : decode cX10_nameOf 94 = .ok (.ldc 178, 2) := by decide +kernel
theorem dX10_nameOf_96 : decode cX10_nameOf 96 = .ok (.areturn, 1) := by decide +kernel
theorem dX10_nameOf_97 : decode cX10_nameOf 97 = .ok (.ldc 180, 2) := by decide +kernel
theorem dX10_nameOf_99 : decode cX10_nameOf 99 = .ok (.areturn, 1) := by decide +kernel
theorem dX10_nameOf_100 : decode cX10_nameOf 100 = .ok (.ldc 182, 2) := by decide +kernel
theorem dX10_nameOf_102 : decode cX10_nameOf 102 = .ok (.areturn, 1) := by decide +kernel
theorem dX10_nameOf_103 : decode cX10_nameOf 103 = .ok (.ldc 184, 2) := by decide +kernel
theorem dX10_nameOf_105 : decode cX10_nameOf 105 = .ok (.areturn, 1) := by decide +kernel
theorem dX10_nameOf_106 : decode cX10_nameOf 106 = .ok (.ldc 186, 2) := by decide +kernel
theorem dX10_nameOf_108 : decode cX10_nameOf 108 = .ok (.areturn, 1) := by decide +kernel
theorem dX10_nameOf_109 : decode cX10_nameOf 109 = .ok (.ldc 188, 2) := by decide +kernel
theorem dX10_nameOf_111 : decode cX10_nameOf 111 = .ok (.areturn, 1) := by decide +kernel
theorem dX10_nameOf_112 : decode cX10_nameOf 112 = .ok (.ldc 190, 2) := by decide +kernel
theorem dX10_nameOf_114 : decode cX10_nameOf 114 = .ok (.areturn, 1) := by decide +kernel
theorem dX10_nameOf_115 : decode cX10_nameOf 115 = .ok (.ldc 192, 2) := by decide +kernel
theorem dX10_nameOf_117 : decode cX10_nameOf 117 = .ok (.areturn, 1) := by decide +kernel
theorem dX10_nameOf_118 : decode cX10_nameOf 118 = .ok (.ldc 194, 2) := by decide +kernel
theorem dX10_nameOf_120 : decode cX10_nameOf 120 = .ok (.areturn, 1) := by decide +kernel
theorem dX10_nameOf_121 : decode cX10_nameOf 121 = .ok (.ldc 196, 2) := by decide +kernel
theorem dX10_nameOf_123 : decode cX10_nameOf 123 = .ok (.areturn, 1) := by decide +kernel
theorem dX10_nameOf_124 : decode cX10_nameOf 124 = .ok (.ldc 198, 2) := by decide +kernel
theorem dX10_nameOf_126 : decode cX10_nameOf 126 = .ok (.areturn, 1) := by decide +kernel
theorem dX10_nameOf_127 : decode cX10_nameOf 127 = .ok (.ldc 200, 2) := by decide +kernel
theorem dX10_nameOf_129 : decode cX10_nameOf 129 = .ok (.areturn, 1) := by decide +kernel
theorem dX10_nameOf_130 : decode cX10_nameOf 130 = .ok (.ldc 202, 2) := by decide +kernel
theorem dX10_nameOf_132 : decode cX10_nameOf 132 = .ok (.areturn, 1) := by decide +kernel
theorem dX10_nameOf_133 : decode cX10_nameOf 133 = .ok (.ldc 204, 2) := by decide +kernel
theorem dX10_nameOf_135 : decode cX10_nameOf 135 = .ok (.areturn, 1) := by decide +kernel
theorem dX10_nameOf_136 : decode cX10_nameOf 136 = .ok (.ldc 205, 2) := by decide +kernel
theorem dX10_nameOf_138 : decode cX10_nameOf 138 = .ok (.areturn, 1) := by decide +kernel
theorem dX10_nameOf_139 : decode cX10_nameOf 139 = .ok (.ldc 206, 2) := by decide +kernel
theorem dX10_nameOf_141 : decode cX10_nameOf 141 = .ok (.areturn, 1) := by decide +kernel
theorem dX10_nameOf_142 : decode cX10_nameOf 142 = .ok (.ldc 207, 2) := by decide +kernel
theorem dX10_nameOf_144 : decode cX10_nameOf 144 = .ok (.areturn, 1) := by decide +kernel
theorem dX10_word_0 : decode cX10_word 0 = .ok (.aload_n 0, 1) := by decide +kernel
theorem dX10_word_1 : decode cX10_word 1 = .ok (.invokevirtual 208, 3) := by decide +kernel
theorem dX10_word_4 : decode cX10_word 4 = .ok (.aload_n 0, 1) := by decide +kernel
theorem dX10_word_5 : decode cX10_word 5 = .ok (.getfield 168, 3) := by decide +kernel
theorem dX10_word_8 : decode cX10_word 8 = .ok (.istore_n 1, 1) := by decide +kernel
theorem dX10_word_9 : decode cX10_word 9 = .ok (.iload_n 1, 1) := by decide +kernel
theorem dX10_word_10 : decode cX10_word 10 = .ok (.aload_n 0, 1) := by decide +kernel
theorem dX10_word_11 : decode cX10_word 11 = .ok (.getfield 171, 3) := by decide +kernel
theorem dX10_word_14 : decode cX10_word 14 = .ok (.if_icmp .ge 21, 3) := by decide +kernel
theorem dX10_word_17 : decode cX10_word 17 = .ok (.aload_n 0, 1) := by decide +kernel
theorem dX10_word_18 : decode cX10_word 18 = .ok (.getfield 53, 3) := by decide +kernel
theorem dX10_word_21 : decode cX10_word 21 = .ok (.iload_n 1, 1) := by decide +kernel
theorem dX10_word_22 : decode cX10_word 22 = .ok (.iaload, 1) := by decide +kernel
theorem dX10_word_23 : decode cX10_word 23 = .ok (.invokestatic 211, 3) := by decide +kernel
theorem dX10_word_26 : decode cX10_word 26 = .ok (.ifCond .eq 9, 3) := by decide +kernel
theorem dX10_word_29 : decode cX10_word 29 = .ok (.iinc 1 1, 3) := by decide +kernel
theorem dX10_word_32 : decode cX10_word 32 = .ok (.goto (-23), 3) := by decide +kernel
theorem dX10_word_35 : decode cX10_word 35 = .ok (.iconst 0, 1) := by decide +kernel
theorem dX10_word_36 : decode cX10_word 36 = .ok (.istore_n 2, 1) := by decide +kernel
theorem dX10_word_37 : decode cX10_word 37 = .ok (.iload_n 2, 1) := by decide +kernel
theorem dX10_word_38 : decode cX10_word 38 = .ok (.bipush 18, 2) := by decide +kernel
theorem dX10_word_40 : decode cX10_word 40 = .ok (.if_icmp .gt 92, 3) := by decide +kernel
theorem dX10_word_43 : decode cX10_word 43 = .ok (.iload_n 2, 1) := by decide +kernel
theorem dX10_word_44 : decode cX10_word 44 = .ok (.invokestatic 214, 3) := by decide +kernel
theorem dX10_word_47 : decode cX10_word 47 = .ok (.astore_n 3, 1) := by decide +kernel
theorem dX10_word_48 : decode cX10_word 48 = .ok (.aload_n 3, 1) := by decide +kernel
theorem dX10_word_49 : decode cX10_word 49 = .ok (.invokevirtual 218, 3) := by decide +kernel
theorem dX10_word_52 : decode cX10_word 52 = .ok (.iload_n 1, 1) := by decide +kernel
theorem dX10_word_53 : decode cX10_word 53 = .ok (.aload_n 0, 1) := by decide +kernel
theorem dX10_word_54 : decode cX10_word 54 = .ok (.getfield 168, 3) := by decide +kernel
theorem dX10_word_57 : decode cX10_word 57 = .ok (.isub, 1) := by decide +kernel
theorem dX10_word_58 : decode cX10_word 58 = .ok (.if_icmp .ne 7, 3) := by decide +kernel
theorem dX10_word_61 : decode cX10_word 61 = .ok (.iconst 1, 1) := by decide +kernel
theorem dX10_word_62 : decode cX10_word 62 = .ok (.goto 4, 3) := by decide +kernel
theorem dX10_word_65 : decode cX10_word 65 = .ok (.iconst 0, 1) := by decide +kernel
theorem dX10_word_66 : decode cX10_word 66 = .ok (.istore 4, 2) := by decide +kernel
theorem dX10_word_68 : decode cX10_word 68 = .ok (.iconst 0, 1) := by decide +kernel
theorem dX10_word_69 : decode cX10_word 69 = .ok (.istore 5, 2) := by decide +kernel
theorem dX10_word_71 : decode cX10_word 71 = .ok (.iload 5, 2) := by decide +kernel
theorem dX10_word_73 : decode cX10_word 73 = .ok (.aload_n 3, 1) := by decide +kernel
theorem dX10_word_74 : decode cX10_word 74 = .ok (.invokevirtual 218, 3) := by decide +kernel
theorem dX10_word_77 : decode cX10_word 77 = .ok (.if_icmp .ge 42, 3) := by decide +kernel
theorem dX10_word_80 : decode cX10_word 80 = .ok (.iload 4, 2) := by decide +kernel
theorem dX10_word_82 : decode cX10_word 82 = .ok (.ifCond .eq 37, 3) := by decide +kernel
theorem dX10_word_85 : decode cX10_word 85 = .ok (.aload_n 3, 1) := by decide +kernel
theorem dX10_word_86 : decode cX10_word 86 = .ok (.iload 5, 2) := by decide +kernel
theorem dX10_word_88 : decode cX10_word 88 = .ok (.invokevirtual 224, 3) := by decide +kernel
theorem dX10_word_91 : decode cX10_word 91 = .ok (.aload_n 0, 1) := by decide +kernel
theorem dX10_word_92 : decode cX10_word 92 = .ok (.getfield 53, 3) := by decide +kernel
theorem dX10_word_95 : decode cX10_word 95 = .ok (.aload_n 0, 1) := by decide +kernel
theorem dX10_word_96 : decode cX10_word 96 = .ok (.getfield 168, 3) := by decide +kernel
theorem dX10_word_99 : decode cX10_word 99 = .ok (.iload 5, 2) := by decide +kernel
theorem dX10_word_101 : decode cX10_word 101 = .ok (.iadd, 1) := by decide +kernel
theorem dX10_word_102 : decode cX10_word 102 = .ok (.iaload, 1) := by decide +kernel
theorem dX10_word_103 : decode cX10_word 103 = .ok (.if_icmp .ne 7, 3) := by decide +kernel
theorem dX10_word_106 : decode cX10_word 106 = .ok (.iconst 1, 1) := by decide +kernel
theorem dX10_word_107 : decode cX10_word 107 = .ok (.goto 4, 3) := by decide +kernel
theorem dX10_word_110 : decode cX10_word 110 = .ok (.iconst 0, 1) := by decide +kernel
theorem dX10_word_111 : decode cX10_word 111 = .ok (.istore 4, 2) := by decide +kernel
theorem dX10_word_113 : decode cX10_word 113 = .ok (.iinc 5 1, 3) := by decide +kernel
theorem dX10_word_116 : decode cX10_word 116 = .ok (.goto (-45), 3) := by decide +kernel
theorem dX10_word_119 : decode cX10_word 119 = .ok (.iload 4, 2) := by decide +kernel
theorem dX10_word_121 : decode cX10_word 121 = .ok (.ifCond .eq 5, 3) := by decide +kernel
theorem dX10_word_124 : decode cX10_word 124 = .ok (.iload_n 2, 1) := by decide +kernel
theorem dX10_word_125 : decode cX10_word 125 = .ok (.ireturn, 1) := by decide +kernel
theorem dX10_word_126 : decode cX10_word 126 = .ok (.iinc 2 1, 3) := by decide +kernel
theorem dX10_word_129 : decode cX10_word 129 = .ok (.goto (-92), 3) := by decide +kernel
theorem dX10_word_132 : decode cX10_word 132 = .ok (.iconst (-1), 1) := by decide +kernel
theorem dX10_word_133 : decode cX10_word 133 = .ok (.ireturn, 1) := by decide +kernel
theorem dX10_pass_0 : decode cX10_pass 0 = .ok (.aload_n 0, 1) := by decide +kernel
theorem dX10_pass_1 : decode cX10_pass 1 = .ok (.dup, 1) := by decide +kernel
theorem dX10_pass_2 : decode cX10_pass 2 = .ok (.getfield 168, 3) := by decide +kernel
theorem dX10_pass_5 : decode cX10_pass 5 = .ok (.iload_n 1, 1) := by decide +kernel
theorem dX10_pass_6 : decode cX10_pass 6 = .ok (.invokestatic 214, 3) := by decide +kernel
theorem dX10_pass_9 : decode cX10_pass 9 = .ok (.invokevirtual 218, 3) := by decide +kernel
theorem dX10_pass_12 : decode cX10_pass 12 = .ok (.iadd, 1) := by decide +kernel
theorem dX10_pass_13 : decode cX10_pass 13 = .ok (.putfield 168, 3) := by decide +kernel
theorem dX10_pass_16 : decode cX10_pass 16 = .ok (.return_, 1) := by decide +kernel
theorem dX10_isSign_0 : decode cX10_isSign 0 = .ok (.aload_n 0, 1) := by decide +kernel
theorem dX10_isSign_1 : decode cX10_isSign 1 = .ok (.invokevirtual 208, 3) := by decide +kernel
theorem dX10_isSign_4 : decode cX10_isSign 4 = .ok (.aload_n 0, 1) := by decide +kernel
theorem dX10_isSign_5 : decode cX10_isSign 5 = .ok (.getfield 168, 3) := by decide +kernel
theorem dX10_isSign_8 : decode cX10_isSign 8 = .ok (.aload_n 0, 1) := by decide +kernel
theorem dX10_isSign_9 : decode cX10_isSign 9 = .ok (.getfield 171, 3) := by decide +kernel
theorem dX10_isSign_12 : decode cX10_isSign 12 = .ok (.if_icmp .ge 20, 3) := by decide +kernel
theorem dX10_isSign_15 : decode cX10_isSign 15 = .ok (.aload_n 0, 1) := by decide +kernel
theorem dX10_isSign_16 : decode cX10_isSign 16 = .ok (.getfield 53, 3) := by decide +kernel
theorem dX10_isSign_19 : decode cX10_isSign 19 = .ok (.aload_n 0, 1) := by decide +kernel
theorem dX10_isSign_20 : decode cX10_isSign 20 = .ok (.getfield 168, 3) := by decide +kernel
theorem dX10_isSign_23 : decode cX10_isSign 23 = .ok (.iaload, 1) := by decide +kernel
theorem dX10_isSign_24 : decode cX10_isSign 24 = .ok (.iload_n 1, 1) := by decide +kernel
theorem dX10_isSign_25 : decode cX10_isSign 25 = .ok (.if_icmp .ne 7, 3) := by decide +kernel
theorem dX10_isSign_28 : decode cX10_isSign 28 = .ok (.iconst 1, 1) := by decide +kernel
theorem dX10_isSign_29 : decode cX10_isSign 29 = .ok (.goto 4, 3) := by decide +kernel
theorem dX10_isSign_32 : decode cX10_isSign 32 = .ok (.iconst 0, 1) := by decide +kernel
theorem dX10_isSign_33 : decode cX10_isSign 33 = .ok (.ireturn, 1) := by decide +kernel
theorem dX10_need_0 : decode cX10_need 0 = .ok (.aload_n 0, 1) := by decide +kernel
theorem dX10_need_1 : decode cX10_need 1 = .ok (.iload_n 1, 1) := by decide +kernel
theorem dX10_need_2 : decode cX10_need 2 = .ok (.invokevirtual 228, 3) := by decide +kernel
theorem dX10_need_5 : decode cX10_need 5 = .ok (.ifCond .ne 13, 3) := by decide +kernel
theorem dX10_need_8 : decode cX10_need 8 = .ok (.aload_n 0, 1) := by decide +kernel
theorem dX10_need_9 : decode cX10_need 9 = .ok (.iconst 1, 1) := by decide +kernel
theorem dX10_need_10 : decode cX10_need 10 = .ok (.aload_n 0, 1) := by decide +kernel
theorem dX10_need_11 : decode cX10_need 11 = .ok (.getfield 168, 3) := by decide +kernel
theorem dX10_need_14 : decode cX10_need 14 = .ok (.invokevirtual 231, 3) := by decide +kernel
theorem dX10_need_17 : decode cX10_need 17 = .ok (.ireturn, 1) := by decide +kernel
theorem dX10_need_18 : decode cX10_need 18 = .ok (.aload_n 0, 1) := by decide +kernel
theorem dX10_need_19 : decode cX10_need 19 = .ok (.dup, 1) := by decide +kernel
theorem dX10_need_20 : decode cX10_need 20 = .ok (.getfield 168, 3) := by decide +kernel
theorem dX10_need_23 : decode cX10_need 23 = .ok (.iconst 1, 1) := by decide +kernel
theorem dX10_need_24 : decode cX10_need 24 = .ok (.iadd, 1) := by decide +kernel
theorem dX10_need_25 : decode cX10_need 25 = .ok (.putfield 168, 3) := by decide +kernel
theorem dX10_need_28 : decode cX10_need 28 = .ok (.iconst 1, 1) := by decide +kernel
theorem dX10_need_29 : decode cX10_need 29 = .ok (.ireturn, 1) := by decide +kernel
theorem dX10_needWord_0 : decode cX10_needWord 0 = .ok (.aload_n 0, 1) := by decide +kernel
theorem dX10_needWord_1 : decode cX10_needWord 1 = .ok (.invokevirtual 234, 3) := by decide +kernel
theorem dX10_needWord_4 : decode cX10_needWord 4 = .ok (.iload_n 1, 1) := by decide +kernel
theorem dX10_needWord_5 : decode cX10_needWord 5 = .ok (.if_icmp .eq 13, 3) := by decide +kernel
theorem dX10_needWord_8 : decode cX10_needWord 8 = .ok (.aload_n 0, 1) := by decide +kernel
theorem dX10_needWord_9 : decode cX10_needWord 9 = .ok (.iconst 1, 1) := by decide +kernel
theorem dX10_needWord_10 : decode cX10_needWord 10 = .ok (.aload_n 0, 1) := by decide +kernel
theorem dX10_needWord_11 : decode cX10_needWord 11 = .ok (.getfield 168, 3) := by decide +kernel
theorem dX10_needWord_14 : decode cX10_needWord 14 = .ok (.invokevirtual 231, 3) := by decide +kernel
theorem dX10_needWord_17 : decode cX10_needWord 17 = .ok (.ireturn, 1) := by decide +kernel
theorem dX10_needWord_18 : decode cX10_needWord 18 = .ok (.aload_n 0, 1) := by decide +kernel
theorem dX10_needWord_19 : decode cX10_needWord 19 = .ok (.iload_n 1, 1) := by decide +kernel
theorem dX10_needWord_20 : decode cX10_needWord 20 = .ok (.invokevirtual 237, 3) := by decide +kernel
theorem dX10_needWord_23 : decode cX10_needWord 23 = .ok (.iconst 1, 1) := by decide +kernel
theorem dX10_needWord_24 : decode cX10_needWord 24 = .ok (.ireturn, 1) := by decide +kernel
theorem dX10_number_0 : decode cX10_number 0 = .ok (.aload_n 0, 1) := by decide +kernel
theorem dX10_number_1 : decode cX10_number 1 = .ok (.invokevirtual 208, 3) := by decide +kernel
theorem dX10_number_4 : decode cX10_number 4 = .ok (.aload_n 0, 1) := by decide +kernel
theorem dX10_number_5 : decode cX10_number 5 = .ok (.getfield 168, 3) := by decide +kernel
theorem dX10_number_8 : decode cX10_number 8 = .ok (.istore_n 3, 1) := by decide +kernel
theorem dX10_number_9 : decode cX10_number 9 = .ok (.aload_n 0, 1) := by decide +kernel
theorem dX10_number_10 : decode cX10_number 10 = .ok (.getfield 168, 3) := by decide +kernel
theorem dX10_number_13 : decode cX10_number 13 = .ok (.aload_n 0, 1) := by decide +kernel
theorem dX10_number_14 : decode cX10_number 14 = .ok (.getfield 171, 3) := by decide +kernel
theorem dX10_number_17 : decode cX10_number 17 = .ok (.if_icmp .ge 18, 3) := by decide +kernel
theorem dX10_number_20 : decode cX10_number 20 = .ok (.aload_n 0, 1) := by decide +kernel
theorem dX10_number_21 : decode cX10_number 21 = .ok (.getfield 53, 3) := by decide +kernel
theorem dX10_number_24 : decode cX10_number 24 = .ok (.aload_n 0, 1) := by decide +kernel
theorem dX10_number_25 : decode cX10_number 25 = .ok (.getfield 168, 3) := by decide +kernel
theorem dX10_number_28 : decode cX10_number 28 = .ok (.iaload, 1) := by decide +kernel
theorem dX10_number_29 : decode cX10_number 29 = .ok (.invokestatic 240, 3) := by decide +kernel
theorem dX10_number_32 : decode cX10_number 32 = .ok (.ifCond .ne 13, 3) := by decide +kernel
theorem dX10_number_35 : decode cX10_number 35 = .ok (.aload_n 0, 1) := by decide +kernel
theorem dX10_number_36 : decode cX10_number 36 = .ok (.iconst 1, 1) := by decide +kernel
theorem dX10_number_37 : decode cX10_number 37 = .ok (.aload_n 0, 1) := by decide +kernel
theorem dX10_number_38 : decode cX10_number 38 = .ok (.getfield 168, 3) := by decide +kernel
theorem dX10_number_41 : decode cX10_number 41 = .ok (.invokevirtual 231, 3) := by decide +kernel
theorem dX10_number_44 : decode cX10_number 44 = .ok (.ireturn, 1) := by decide +kernel
theorem dX10_number_45 : decode cX10_number 45 = .ok (.aload_n 0, 1) := by decide +kernel
theorem dX10_number_46 : decode cX10_number 46 = .ok (.iconst 0, 1) := by decide +kernel
theorem dX10_number_47 : decode cX10_number 47 = .ok (.putfield 243, 3) := by decide +kernel
theorem dX10_number_50 : decode cX10_number 50 = .ok (.aload_n 0, 1) := by decide +kernel
theorem dX10_number_51 : decode cX10_number 51 = .ok (.getfield 168, 3) := by decide +kernel
theorem dX10_number_54 : decode cX10_number 54 = .ok (.aload_n 0, 1) := by decide +kernel
theorem dX10_number_55 : decode cX10_number 55 = .ok (.getfield 171, 3) := by decide +kernel
theorem dX10_number_58 : decode cX10_number 58 = .ok (.if_icmp .ge 65, 3) := by decide +kernel
theorem dX10_number_61 : decode cX10_number 61 = .ok (.aload_n 0, 1) := by decide +kernel
theorem dX10_number_62 : decode cX10_number 62 = .ok (.getfield 53, 3) := by decide +kernel
theorem dX10_number_65 : decode cX10_number 65 = .ok (.aload_n 0, 1) := by decide +kernel
theorem dX10_number_66 : decode cX10_number 66 = .ok (.getfield 168, 3) := by decide +kernel
theorem dX10_number_69 : decode cX10_number 69 = .ok (.iaload, 1) := by decide +kernel
theorem dX10_number_70 : decode cX10_number 70 = .ok (.invokestatic 240, 3) := by decide +kernel
theorem dX10_number_73 : decode cX10_number 73 = .ok (.ifCond .eq 50, 3) := by decide +kernel
theorem dX10_number_76 : decode cX10_number 76 = .ok (.aload_n 0, 1) := by decide +kernel
theorem dX10_number_77 : decode cX10_number 77 = .ok (.getfield 168, 3) := by decide +kernel
theorem dX10_number_80 : decode cX10_number 80 = .ok (.iload_n 3, 1) := by decide +kernel
theorem dX10_number_81 : decode cX10_number 81 = .ok (.isub, 1) := by decide +kernel
theorem dX10_number_82 : decode cX10_number 82 = .ok (.iconst 4, 1) := by decide +kernel
theorem dX10_number_83 : decode cX10_number 83 = .ok (.if_icmp .ge 27, 3) := by decide +kernel
theorem dX10_number_86 : decode cX10_number 86 = .ok (.aload_n 0, 1) := by decide +kernel
theorem dX10_number_87 : decode cX10_number 87 = .ok (.bipush 10, 2) := by decide +kernel
theorem dX10_number_89 : decode cX10_number 89 = .ok (.aload_n 0, 1) := by decide +kernel
theorem dX10_number_90 : decode cX10_number 90 = .ok (.getfield 243, 3) := by decide +kernel
theorem dX10_number_93 : decode cX10_number 93 = .ok (.imul, 1) := by decide +kernel
theorem dX10_number_94 : decode cX10_number 94 = .ok (.aload_n 0, 1) := by decide +kernel
theorem dX10_number_95 : decode cX10_number 95 = .ok (.getfield 53, 3) := by decide +kernel
theorem dX10_number_98 : decode cX10_number 98 = .ok (.aload_n 0, 1) := by decide +kernel
theorem dX10_number_99 : decode cX10_number 99 = .ok (.getfield 168, 3) := by decide +kernel
theorem dX10_number_102 : decode cX10_number 102 = .ok (.iaload, 1) := by decide +kernel
theorem dX10_number_103 : decode cX10_number 103 = .ok (.iadd, 1) := by decide +kernel
theorem dX10_number_104 : decode cX10_number 104 = .ok (.bipush 48, 2) := by decide +kernel
theorem dX10_number_106 : decode cX10_number 106 = .ok (.isub, 1) := by decide +kernel
theorem dX10_number_107 : decode cX10_number 107 = .ok (.putfield 243, 3) := by decide +kernel
theorem dX10_number_110 : decode cX10_number 110 = .ok (.aload_n 0, 1) := by decide +kernel
theorem dX10_number_111 : decode cX10_number 111 = .ok (.dup, 1) := by decide +kernel
theorem dX10_number_112 : decode cX10_number 112 = .ok (.getfield 168, 3) := by decide +kernel
theorem dX10_number_115 : decode cX10_number 115 = .ok (.iconst 1, 1) := by decide +kernel
theorem dX10_number_116 : decode cX10_number 116 = .ok (.iadd, 1) := by decide +kernel
theorem dX10_number_117 : decode cX10_number 117 = .ok (.putfield 168, 3) := by decide +kernel
theorem dX10_number_120 : decode cX10_number 120 = .ok (.goto (-70), 3) := by decide +kernel
theorem dX10_number_123 : decode cX10_number 123 = .ok (.aload_n 0, 1) := by decide +kernel
theorem dX10_number_124 : decode cX10_number 124 = .ok (.getfield 168, 3) := by decide +kernel
theorem dX10_number_127 : decode cX10_number 127 = .ok (.iload_n 3, 1) := by decide +kernel
theorem dX10_number_128 : decode cX10_number 128 = .ok (.isub, 1) := by decide +kernel
theorem dX10_number_129 : decode cX10_number 129 = .ok (.iconst 4, 1) := by decide +kernel
theorem dX10_number_130 : decode cX10_number 130 = .ok (.if_icmp .gt 19, 3) := by decide +kernel
theorem dX10_number_133 : decode cX10_number 133 = .ok (.aload_n 0, 1) := by decide +kernel
theorem dX10_number_134 : decode cX10_number 134 = .ok (.getfield 243, 3) := by decide +kernel
theorem dX10_number_137 : decode cX10_number 137 = .ok (.iload_n 1, 1) := by decide +kernel
theorem dX10_number_138 : decode cX10_number 138 = .ok (.if_icmp .lt 11, 3) := by decide +kernel
theorem dX10_number_141 : decode cX10_number 141 = .ok (.aload_n 0, 1) := by decide +kernel
theorem dX10_number_142 : decode cX10_number 142 = .ok (.getfield 243, 3) := by decide +kernel
theorem dX10_number_145 : decode cX10_number 145 = .ok (.iload_n 2, 1) := by decide +kernel
theorem dX10_number_146 : decode cX10_number 146 = .ok (.if_icmp .le 12, 3) := by decide +kernel
theorem dX10_number_149 : decode cX10_number 149 = .ok (.aload_n 0, 1) := by decide +kernel
theorem dX10_number_150 : decode cX10_number 150 = .ok (.iconst 2, 1) := by decide +kernel
theorem dX10_number_151 : decode cX10_number 151 = .ok (.iload_n 3, 1) := by decide +kernel
theorem dX10_number_152 : decode cX10_number 152 = .ok (.invokevirtual 231, 3) := by decide +kernel
theorem dX10_number_155 : decode cX10_number 155 = .ok (.ifCond .eq 7, 3) := by decide +kernel
theorem dX10_number_158 : decode cX10_number 158 = .ok (.iconst 1, 1) := by decide +kernel
theorem dX10_number_159 : decode cX10_number 159 = .ok (.goto 4, 3) := by decide +kernel
theorem dX10_number_162 : decode cX10_number 162 = .ok (.iconst 0, 1) := by decide +kernel
theorem dX10_number_163 : decode cX10_number 163 = .ok (.ireturn, 1) := by decide +kernel
theorem dX10_steps_0 : decode cX10_steps 0 = .ok (.iconst (-1), 1) := by decide +kernel
theorem dX10_steps_1 : decode cX10_steps 1 = .ok (.istore_n 2, 1) := by decide +kernel
theorem dX10_steps_2 : decode cX10_steps 2 = .ok (.iconst (-1), 1) := by decide +kernel
theorem dX10_steps_3 : decode cX10_steps 3 = .ok (.istore_n 3, 1) := by decide +kernel
theorem dX10_steps_4 : decode cX10_steps 4 = .ok (.aload_n 0, 1) := by decide +kernel
theorem dX10_steps_5 : decode cX10_steps 5 = .ok (.invokevirtual 208, 3) := by decide +kernel
theorem dX10_steps_8 : decode cX10_steps 8 = .ok (.iload_n 1, 1) := by decide +kernel
theorem dX10_steps_9 : decode cX10_steps 9 = .ok (.ifCond .eq 15, 3) := by decide +kernel
theorem dX10_steps_12 : decode cX10_steps 12 = .ok (.aload_n 0, 1) := by decide +kernel
theorem dX10_steps_13 : decode cX10_steps 13 = .ok (.bipush 125, 2) := by decide +kernel
theorem dX10_steps_15 : decode cX10_steps 15 = .ok (.invokevirtual 228, 3) := by decide +kernel
theorem dX10_steps_18 : decode cX10_steps 18 = .ok (.ifCond .ne 61, 3) := by decide +kernel
theorem dX10_steps_21 : decode cX10_steps 21 = .ok (.goto 14, 3) := by decide +kernel
theorem dX10_steps_24 : decode cX10_steps 24 = .ok (.aload_n 0, 1) := by decide +kernel
theorem dX10_steps_25 : decode cX10_steps 25 = .ok (.getfield 168, 3) := by decide +kernel
theorem dX10_steps_28 : decode cX10_steps 28 = .ok (.aload_n 0, 1) := by decide +kernel
theorem dX10_steps_29 : decode cX10_steps 29 = .ok (.getfield 171, 3) := by decide +kernel
theorem dX10_steps_32 : decode cX10_steps 32 = .ok (.if_icmp .ge 47, 3) := by decide +kernel
theorem dX10_steps_35 : decode cX10_steps 35 = .ok (.aload_n 0, 1) := by decide +kernel
theorem dX10_steps_36 : decode cX10_steps 36 = .ok (.invokevirtual 246, 3) := by decide +kernel
theorem dX10_steps_39 : decode cX10_steps 39 = .ok (.istore 4, 2) := by decide +kernel
theorem dX10_steps_41 : decode cX10_steps 41 = .ok (.iload 4, 2) := by decide +kernel
theorem dX10_steps_43 : decode cX10_steps 43 = .ok (.iconst (-1), 1) := by decide +kernel
theorem dX10_steps_44 : decode cX10_steps 44 = .ok (.if_icmp .ne 6, 3) := by decide +kernel
theorem dX10_steps_47 : decode cX10_steps 47 = .ok (.bipush (-2), 2) := by decide +kernel
theorem dX10_steps_49 : decode cX10_steps 49 = .ok (.ireturn, 1) := by decide +kernel
theorem dX10_steps_50 : decode cX10_steps 50 = .ok (.iload_n 3, 1) := by decide +kernel
theorem dX10_steps_51 : decode cX10_steps 51 = .ok (.iconst (-1), 1) := by decide +kernel
theorem dX10_steps_52 : decode cX10_steps 52 = .ok (.if_icmp .ne 9, 3) := by decide +kernel
theorem dX10_steps_55 : decode cX10_steps 55 = .ok (.iload 4, 2) := by decide +kernel
theorem dX10_steps_57 : decode cX10_steps 57 = .ok (.istore_n 2, 1) := by decide +kernel
theorem dX10_steps_58 : decode cX10_steps 58 = .ok (.goto 11, 3) := by decide +kernel
theorem dX10_steps_61 : decode cX10_steps 61 = .ok (.aload_n 0, 1) := by decide +kernel
theorem dX10_steps_62 : decode cX10_steps 62 = .ok (.getfield 81, 3) := by decide +kernel
theorem dX10_steps_65 : decode cX10_steps 65 = .ok (.iload_n 3, 1) := by decide +kernel
theorem dX10_steps_66 : decode cX10_steps 66 = .ok (.iload 4, 2) := by decide +kernel
theorem dX10_steps_68 : decode cX10_steps 68 = .ok (.iastore, 1) := by decide +kernel
theorem dX10_steps_69 : decode cX10_steps 69 = .ok (.iload 4, 2) := by decide +kernel
theorem dX10_steps_71 : decode cX10_steps 71 = .ok (.istore_n 3, 1) := by decide +kernel
theorem dX10_steps_72 : decode cX10_steps 72 = .ok (.aload_n 0, 1) := by decide +kernel
theorem dX10_steps_73 : decode cX10_steps 73 = .ok (.invokevirtual 208, 3) := by decide +kernel
theorem dX10_steps_76 : decode cX10_steps 76 = .ok (.goto (-68), 3) := by decide +kernel
theorem dX10_steps_79 : decode cX10_steps 79 = .ok (.iload_n 1, 1) := by decide +kernel
theorem dX10_steps_80 : decode cX10_steps 80 = .ok (.ifCond .eq 13, 3) := by decide +kernel
theorem dX10_steps_83 : decode cX10_steps 83 = .ok (.aload_n 0, 1) := by decide +kernel
theorem dX10_steps_84 : decode cX10_steps 84 = .ok (.dup, 1) := by decide +kernel
theorem dX10_steps_85 : decode cX10_steps 85 = .ok (.getfield 168, 3) := by decide +kernel
theorem dX10_steps_88 : decode cX10_steps 88 = .ok (.iconst 1, 1) := by decide +kernel
theorem dX10_steps_89 : decode cX10_steps 89 = .ok (.iadd, 1) := by decide +kernel
theorem dX10_steps_90 : decode cX10_steps 90 = .ok (.putfield 168, 3) := by decide +kernel
theorem dX10_steps_93 : decode cX10_steps 93 = .ok (.iload_n 2, 1) := by decide +kernel
theorem dX10_steps_94 : decode cX10_steps 94 = .ok (.ireturn, 1) := by decide +kernel
theorem dX10_step_0 : decode cX10_step 0 = .ok (.aload_n 0, 1) := by decide +kernel
theorem dX10_step_1 : decode cX10_step 1 = .ok (.invokevirtual 234, 3) := by decide +kernel
theorem dX10_step_4 : decode cX10_step 4 = .ok (.istore_n 1, 1) := by decide +kernel
theorem dX10_step_5 : decode cX10_step 5 = .ok (.iload_n 1, 1) := by decide +kernel
theorem dX10_step_6 : decode cX10_step 6 = .ok (.iconst (-1), 1) := by decide +kernel
theorem dX10_step_7 : decode cX10_step 7 = .ok (.if_icmp .eq 9, 3) := by decide +kernel
theorem dX10_step_10 : decode cX10_step 10 = .ok (.iload_n 1, 1) := by decide +kernel
theorem dX10_step_11 : decode cX10_step 11 = .ok (.bipush 11, 2) := by decide +kernel
theorem dX10_step_13 : decode cX10_step 13 = .ok (.if_icmp .le 15, 3) := by decide +kernel
theorem dX10_step_16 : decode cX10_step 16 = .ok (.aload_n 0, 1) := by decide +kernel
theorem dX10_step_17 : decode cX10_step 17 = .ok (.iconst 1, 1) := by decide +kernel
theorem dX10_step_18 : decode cX10_step 18 = .ok (.aload_n 0, 1) := by decide +kernel
theorem dX10_step_19 : decode cX10_step 19 = .ok (.getfield 168, 3) := by decide +kernel
theorem dX10_step_22 : decode cX10_step 22 = .ok (.invokevirtual 231, 3) := by decide +kernel
theorem dX10_step_25 : decode cX10_step 25 = .ok (.pop, 1) := by decide +kernel
theorem dX10_step_26 : decode cX10_step 26 = .ok (.iconst (-1), 1) := by decide +kernel
theorem dX10_step_27 : decode cX10_step 27 = .ok (.ireturn, 1) := by decide +kernel
theorem dX10_step_28 : decode cX10_step 28 = .ok (.aload_n 0, 1) := by decide +kernel
theorem dX10_step_29 : decode cX10_step 29 = .ok (.getfield 249, 3) := by decide +kernel
theorem dX10_step_32 : decode cX10_step 32 = .ok (.sipush 300, 3) := by decide +kernel
theorem dX10_step_35 : decode cX10_step 35 = .ok (.if_icmp .ne 15, 3) := by decide +kernel
theorem dX10_step_38 : decode cX10_step 38 = .ok (.aload_n 0, 1) := by decide +kernel
theorem dX10_step_39 : decode cX10_step 39 = .ok (.iconst 2, 1) := by decide +kernel
theorem dX10_step_40 : decode cX10_step 40 = .ok (.aload_n 0, 1) := by decide +kernel
theorem dX10_step_41 : decode cX10_step 41 = .ok (.getfield 168, 3) := by decide +kernel
theorem dX10_step_44 : decode cX10_step 44 = .ok (.invokevirtual 231, 3) := by decide +kernel
theorem dX10_step_47 : decode cX10_step 47 = .ok (.pop, 1) := by decide +kernel
theorem dX10_step_48 : decode cX10_step 48 = .ok (.iconst (-1), 1) := by decide +kernel
theorem dX10_step_49 : decode cX10_step 49 = .ok (.ireturn, 1) := by decide +kernel
theorem dX10_step_50 : decode cX10_step 50 = .ok (.sipush 2400, 3) := by decide +kernel
theorem dX10_step_53 : decode cX10_step 53 = .ok (.aload_n 0, 1) := by decide +kernel
theorem dX10_step_54 : decode cX10_step 54 = .ok (.getfield 249, 3) := by decide +kernel
theorem dX10_step_57 : decode cX10_step 57 = .ok (.iadd, 1) := by decide +kernel
theorem dX10_step_58 : decode cX10_step 58 = .ok (.istore_n 2, 1) := by decide +kernel
theorem dX10_step_59 : decode cX10_step 59 = .ok (.aload_n 0, 1) := by decide +kernel
theorem dX10_step_60 : decode cX10_step 60 = .ok (.dup, 1) := by decide +kernel
theorem dX10_step_61 : decode cX10_step 61 = .ok (.getfield 249, 3) := by decide +kernel
theorem dX10_step_64 : decode cX10_step 64 = .ok (.iconst 1, 1) := by decide +kernel
theorem dX10_step_65 : decode cX10_step 65 = .ok (.iadd, 1) := by decide +kernel
theorem dX10_step_66 : decode cX10_step 66 = .ok (.putfield 249, 3) := by decide +kernel
theorem dX10_step_69 : decode cX10_step 69 = .ok (.aload_n 0, 1) := by decide +kernel
theorem dX10_step_70 : decode cX10_step 70 = .ok (.getfield 60, 3) := by decide +kernel
theorem dX10_step_73 : decode cX10_step 73 = .ok (.iload_n 2, 1) := by decide +kernel
theorem dX10_step_74 : decode cX10_step 74 = .ok (.iload_n 1, 1) := by decide +kernel
theorem dX10_step_75 : decode cX10_step 75 = .ok (.iastore, 1) := by decide +kernel
theorem dX10_step_76 : decode cX10_step 76 = .ok (.aload_n 0, 1) := by decide +kernel
theorem dX10_step_77 : decode cX10_step 77 = .ok (.getfield 63, 3) := by decide +kernel
theorem dX10_step_80 : decode cX10_step 80 = .ok (.iload_n 2, 1) := by decide +kernel
theorem dX10_step_81 : decode cX10_step 81 = .ok (.iconst 0, 1) := by decide +kernel
theorem dX10_step_82 : decode cX10_step 82 = .ok (.iastore, 1) := by decide +kernel
theorem dX10_step_83 : decode cX10_step 83 = .ok (.aload_n 0, 1) := by decide +kernel
theorem dX10_step_84 : decode cX10_step 84 = .ok (.getfield 66, 3) := by decide +kernel
theorem dX10_step_87 : decode cX10_step 87 = .ok (.iload_n 2, 1) := by decide +kernel
theorem dX10_step_88 : decode cX10_step 88 = .ok (.iconst 0, 1) := by decide +kernel
theorem dX10_step_89 : decode cX10_step 89 = .ok (.iastore, 1) := by decide +kernel
theorem dX10_step_90 : decode cX10_step 90 = .ok (.aload_n 0, 1) := by decide +kernel
theorem dX10_step_91 : decode cX10_step 91 = .ok (.getfield 75, 3) := by decide +kernel
theorem dX10_step_94 : decode cX10_step 94 = .ok (.iload_n 2, 1) := by decide +kernel
theorem dX10_step_95 : decode cX10_step 95 = .ok (.iconst (-1), 1) := by decide +kernel
theorem dX10_step_96 : decode cX10_step 96 = .ok (.iastore, 1) := by decide +kernel
theorem dX10_step_97 : decode cX10_step 97 = .ok (.aload_n 0, 1) := by decide +kernel
theorem dX10_step_98 : decode cX10_step 98 = .ok (.getfield 78, 3) := by decide +kernel
theorem dX10_step_101 : decode cX10_step 101 = .ok (.iload_n 2, 1) := by decide +kernel
theorem dX10_step_102 : decode cX10_step 102 = .ok (.iconst (-1), 1) := by decide +kernel
theorem dX10_step_103 : decode cX10_step 103 = .ok (.iastore, 1) := by decide +kernel
theorem dX10_step_104 : decode cX10_step 104 = .ok (.aload_n 0, 1) := by decide +kernel
theorem dX10_step_105 : decode cX10_step 105 = .ok (.getfield 81, 3) := by decide +kernel
theorem dX10_step_108 : decode cX10_step 108 = .ok (.iload_n 2, 1) := by decide +kernel
theorem dX10_step_109 : decode cX10_step 109 = .ok (.iconst (-1), 1) := by decide +kernel
theorem dX10_step_110 : decode cX10_step 110 = .ok (.iastore, 1) := by decide +kernel
theorem dX10_step_111 : decode cX10_step 111 = .ok (.aload_n 0, 1) := by decide +kernel
theorem dX10_step_112 : decode cX10_step 112 = .ok (.iload_n 1, 1) := by decide +kernel
theorem dX10_step_113 : decode cX10_step 113 = .ok (.invokevirtual 237, 3) := by decide +kernel
theorem dX10_step_116 : decode cX10_step 116 = .ok (.aload_n 0, 1) := by decide +kernel
theorem dX10_step_117 : decode cX10_step 117 = .ok (.iload_n 2, 1) := by decide +kernel
theorem dX10_step_118 : decode cX10_step 118 = .ok (.invokevirtual 252, 3) := by decide +kernel
theorem dX10_step_121 : decode cX10_step 121 = .ok (.ifCond .eq 7, 3) := by decide +kernel
theorem dX10_step_124 : decode cX10_step 124 = .ok (.iload_n 2, 1) := by decide +kernel
theorem dX10_step_125 : decode cX10_step 125 = .ok (.goto 4, 3) := by decide +kernel
theorem dX10_step_128 : decode cX10_step 128 = .ok (.iconst (-1), 1) := by decide +kernel
theorem dX10_step_129 : decode cX10_step 129 = .ok (.ireturn, 1) := by decide +kernel
theorem dX10_rest_0 : decode cX10_rest 0 = .ok (.aload_n 0, 1) := by decide +kernel
theorem dX10_rest_1 : decode cX10_rest 1 = .ok (.getfield 60, 3) := by decide +kernel
theorem dX10_rest_4 : decode cX10_rest 4 = .ok (.iload_n 1, 1) := by decide +kernel
theorem dX10_rest_5 : decode cX10_rest 5 = .ok (.iaload, 1) := by decide +kernel
theorem dX10_rest_6 : decode cX10_rest 6 = .ok (.tableswitch 325 0 10 #[58, 111, 111, 118, 84, 145, 170, 196, 222, 249, 292], 58) := by decide +kernel
theorem dX10_rest_64 : decode cX10_rest 64 = .ok (.aload_n 0, 1) := by decide +kernel
theorem dX10_rest_65 : decode cX10_rest 65 = .ok (.iload_n 1, 1) := by decide +kernel
theorem dX10_rest_66 : decode cX10_rest 66 = .ok (.iconst 5, 1) := by decide +kernel
theorem dX10_rest_67 : decode cX10_rest 67 = .ok (.bipush 20, 2) := by decide +kernel
theorem dX10_rest_69 : decode cX10_rest 69 = .ok (.invokevirtual 254, 3) := by decide +kernel
theorem dX10_rest_72 : decode cX10_rest 72 = .ok (.ifCond .eq 16, 3) := by decide +kernel
theorem dX10_rest_75 : decode cX10_rest 75 = .ok (.aload_n 0, 1) := by decide +kernel
theorem dX10_rest_76 : decode cX10_rest 76 = .ok (.bipush 59, 2) := by decide +kernel
theorem dX10_rest_78 : decode cX10_rest 78 = .ok (.invokevirtual 258, 3) := by decide +kernel
theorem dX10_rest_81 : decode cX10_rest 81 = .ok (.ifCond .eq 7, 3) := by decide +kernel
theorem dX10_rest_84 : decode cX10_rest 84 = .ok (.iconst 1, 1) := by decide +kernel
theorem dX10_rest_85 : decode cX10_rest 85 = .ok (.goto 4, 3) := by decide +kernel
theorem dX10_rest_88 : decode cX10_rest 88 = .ok (.iconst 0, 1) := by decide +kernel
theorem dX10_rest_89 : decode cX10_rest 89 = .ok (.ireturn, 1) := by decide +kernel
theorem dX10_rest_90 : decode cX10_rest 90 = .ok (.aload_n 0, 1) := by decide +kernel
theorem dX10_rest_91 : decode cX10_rest 91 = .ok (.iload_n 1, 1) := by decide +kernel
theorem dX10_rest_92 : decode cX10_rest 92 = .ok (.iconst 5, 1) := by decide +kernel
theorem dX10_rest_93 : decode cX10_rest 93 = .ok (.sipush 1000, 3) := by decide +kernel
theorem dX10_rest_96 : decode cX10_rest 96 = .ok (.invokevirtual 254, 3) := by decide +kernel
theorem dX10_rest_99 : decode cX10_rest 99 = .ok (.ifCond .eq 16, 3) := by decide +kernel
theorem dX10_rest_102 : decode cX10_rest 102 = .ok (.aload_n 0, 1) := by decide +kernel
theorem dX10_rest_103 : decode cX10_rest 103 = .ok (.bipush 59, 2) := by decide +kernel
theorem dX10_rest_105 : decode cX10_rest 105 = .ok (.invokevirtual 258, 3) := by decide +kernel
theorem dX10_rest_108 : decode cX10_rest 108 = .ok (.ifCond .eq 7, 3) := by decide +kernel
theorem dX10_rest_111 : decode cX10_rest 111 = .ok (.iconst 1, 1) := by decide +kernel
theorem dX10_rest_112 : decode cX10_rest 112 = .ok (.goto 4, 3) := by decide +kernel
theorem dX10_rest_115 : decode cX10_rest 115 = .ok (.iconst 0, 1) := by decide +kernel
theorem dX10_rest_116 : decode cX10_rest 116 = .ok (.ireturn, 1) := by decide +kernel
theorem dX10_rest_117 : decode cX10_rest 117 = .ok (.aload_n 0, 1) := by decide +kernel
theorem dX10_rest_118 : decode cX10_rest 118 = .ok (.bipush 59, 2) := by decide +kernel
theorem dX10_rest_120 : decode cX10_rest 120 = .ok (.invokevirtual 258, 3) := by decide +kernel
theorem dX10_rest_123 : decode cX10_rest 123 = .ok (.ireturn, 1) := by decide +kernel
theorem dX10_rest_124 : decode cX10_rest 124 = .ok (.aload_n 0, 1) := by decide +kernel
theorem dX10_rest_125 : decode cX10_rest 125 = .ok (.iload_n 1, 1) := by decide +kernel
theorem dX10_rest_126 : decode cX10_rest 126 = .ok (.iconst 1, 1) := by decide +kernel
theorem dX10_rest_127 : decode cX10_rest 127 = .ok (.sipush 200, 3) := by decide +kernel
theorem dX10_rest_130 : decode cX10_rest 130 = .ok (.invokevirtual 261, 3) := by decide +kernel
theorem dX10_rest_133 : decode cX10_rest 133 = .ok (.ifCond .eq 16, 3) := by decide +kernel
theorem dX10_rest_136 : decode cX10_rest 136 = .ok (.aload_n 0, 1) := by decide +kernel
theorem dX10_rest_137 : decode cX10_rest 137 = .ok (.bipush 59, 2) := by decide +kernel
theorem dX10_rest_139 : decode cX10_rest 139 = .ok (.invokevirtual 258, 3) := by decide +kernel
theorem dX10_rest_142 : decode cX10_rest 142 = .ok (.ifCond .eq 7, 3) := by decide +kernel
theorem dX10_rest_145 : decode cX10_rest 145 = .ok (.iconst 1, 1) := by decide +kernel
theorem dX10_rest_146 : decode cX10_rest 146 = .ok (.goto 4, 3) := by decide +kernel
theorem dX10_rest_149 : decode cX10_rest 149 = .ok (.iconst 0, 1) := by decide +kernel
theorem dX10_rest_150 : decode cX10_rest 150 = .ok (.ireturn, 1) := by decide +kernel
theorem dX10_rest_151 : decode cX10_rest 151 = .ok (.aload_n 0, 1) := by decide +kernel
theorem dX10_rest_152 : decode cX10_rest 152 = .ok (.iload_n 1, 1) := by decide +kernel
theorem dX10_rest_153 : decode cX10_rest 153 = .ok (.iconst 0, 1) := by decide +kernel
theorem dX10_rest_154 : decode cX10_rest 154 = .ok (.iconst 5, 1) := by decide +kernel
theorem dX10_rest_155 : decode cX10_rest 155 = .ok (.invokevirtual 261, 3) := by decide +kernel
theorem dX10_rest_158 : decode cX10_rest 158 = .ok (.ifCond .eq 16, 3) := by decide +kernel
theorem dX10_rest_161 : decode cX10_rest 161 = .ok (.aload_n 0, 1) := by decide +kernel
theorem dX10_rest_162 : decode cX10_rest 162 = .ok (.bipush 59, 2) := by decide +kernel
theorem dX10_rest_164 : decode cX10_rest 164 = .ok (.invokevirtual 258, 3) := by decide +kernel
theorem dX10_rest_167 : decode cX10_rest 167 = .ok (.ifCond .eq 7, 3) := by decide +kernel
theorem dX10_rest_170 : decode cX10_rest 170 = .ok (.iconst 1, 1) := by decide +kernel
theorem dX10_rest_171 : decode cX10_rest 171 = .ok (.goto 4, 3) := by decide +kernel
theorem dX10_rest_174 : decode cX10_rest 174 = .ok (.iconst 0, 1) := by decide +kernel
theorem dX10_rest_175 : decode cX10_rest 175 = .ok (.ireturn, 1) := by decide +kernel
theorem dX10_rest_176 : decode cX10_rest 176 = .ok (.aload_n 0, 1) := by decide +kernel
theorem dX10_rest_177 : decode cX10_rest 177 = .ok (.iload_n 1, 1) := by decide +kernel
theorem dX10_rest_178 : decode cX10_rest 178 = .ok (.iconst 1, 1) := by decide +kernel
theorem dX10_rest_179 : decode cX10_rest 179 = .ok (.bipush 99, 2) := by decide +kernel
theorem dX10_rest_181 : decode cX10_rest 181 = .ok (.invokevirtual 261, 3) := by decide +kernel
theorem dX10_rest_184 : decode cX10_rest 184 = .ok (.ifCond .eq 16, 3) := by decide +kernel
theorem dX10_rest_187 : decode cX10_rest 187 = .ok (.aload_n 0, 1) := by decide +kernel
theorem dX10_rest_188 : decode cX10_rest 188 = .ok (.bipush 59, 2) := by decide +kernel
theorem dX10_rest_190 : decode cX10_rest 190 = .ok (.invokevirtual 258, 3) := by decide +kernel
theorem dX10_rest_193 : decode cX10_rest 193 = .ok (.ifCond .eq 7, 3) := by decide +kernel
theorem dX10_rest_196 : decode cX10_rest 196 = .ok (.iconst 1, 1) := by decide +kernel
theorem dX10_rest_197 : decode cX10_rest 197 = .ok (.goto 4, 3) := by decide +kernel
theorem dX10_rest_200 : decode cX10_rest 200 = .ok (.iconst 0, 1) := by decide +kernel
theorem dX10_rest_201 : decode cX10_rest 201 = .ok (.ireturn, 1) := by decide +kernel
theorem dX10_rest_202 : decode cX10_rest 202 = .ok (.aload_n 0, 1) := by decide +kernel
theorem dX10_rest_203 : decode cX10_rest 203 = .ok (.iload_n 1, 1) := by decide +kernel
theorem dX10_rest_204 : decode cX10_rest 204 = .ok (.iconst 0, 1) := by decide +kernel
theorem dX10_rest_205 : decode cX10_rest 205 = .ok (.bipush 50, 2) := by decide +kernel
theorem dX10_rest_207 : decode cX10_rest 207 = .ok (.invokevirtual 261, 3) := by decide +kernel
theorem dX10_rest_210 : decode cX10_rest 210 = .ok (.ifCond .eq 16, 3) := by decide +kernel
theorem dX10_rest_213 : decode cX10_rest 213 = .ok (.aload_n 0, 1) := by decide +kernel
theorem dX10_rest_214 : decode cX10_rest 214 = .ok (.iload_n 1, 1) := by decide +kernel
theorem dX10_rest_215 : decode cX10_rest 215 = .ok (.iconst 0, 1) := by decide +kernel
theorem dX10_rest_216 : decode cX10_rest 216 = .ok (.invokevirtual 264, 3) := by decide +kernel
theorem dX10_rest_219 : decode cX10_rest 219 = .ok (.ifCond .eq 7, 3) := by decide +kernel
theorem dX10_rest_222 : decode cX10_rest 222 = .ok (.iconst 1, 1) := by decide +kernel
theorem dX10_rest_223 : decode cX10_rest 223 = .ok (.goto 4, 3) := by decide +kernel
theorem dX10_rest_226 : decode cX10_rest 226 = .ok (.iconst 0, 1) := by decide +kernel
theorem dX10_rest_227 : decode cX10_rest 227 = .ok (.ireturn, 1) := by decide +kernel
theorem dX10_rest_228 : decode cX10_rest 228 = .ok (.aload_n 0, 1) := by decide +kernel
theorem dX10_rest_229 : decode cX10_rest 229 = .ok (.iload_n 1, 1) := by decide +kernel
theorem dX10_rest_230 : decode cX10_rest 230 = .ok (.iconst 0, 1) := by decide +kernel
theorem dX10_rest_231 : decode cX10_rest 231 = .ok (.sipush 200, 3) := by decide +kernel
theorem dX10_rest_234 : decode cX10_rest 234 = .ok (.invokevirtual 261, 3) := by decide +kernel
theorem dX10_rest_237 : decode cX10_rest 237 = .ok (.ifCond .eq 16, 3) := by decide +kernel
theorem dX10_rest_240 : decode cX10_rest 240 = .ok (.aload_n 0, 1) := by decide +kernel
theorem dX10_rest_241 : decode cX10_rest 241 = .ok (.iload_n 1, 1) := by decide +kernel
theorem dX10_rest_242 : decode cX10_rest 242 = .ok (.iconst 0, 1) := by decide +kernel
theorem dX10_rest_243 : decode cX10_rest 243 = .ok (.invokevirtual 264, 3) := by decide +kernel
theorem dX10_rest_246 : decode cX10_rest 246 = .ok (.ifCond .eq 7, 3) := by decide +kernel
theorem dX10_rest_249 : decode cX10_rest 249 = .ok (.iconst 1, 1) := by decide +kernel
theorem dX10_rest_250 : decode cX10_rest 250 = .ok (.goto 4, 3) := by decide +kernel
theorem dX10_rest_253 : decode cX10_rest 253 = .ok (.iconst 0, 1) := by decide +kernel
theorem dX10_rest_254 : decode cX10_rest 254 = .ok (.ireturn, 1) := by decide +kernel
theorem dX10_rest_255 : decode cX10_rest 255 = .ok (.aload_n 0, 1) := by decide +kernel
theorem dX10_rest_256 : decode cX10_rest 256 = .ok (.iload_n 1, 1) := by decide +kernel
theorem dX10_rest_257 : decode cX10_rest 257 = .ok (.invokevirtual 268, 3) := by decide +kernel
theorem dX10_rest_260 : decode cX10_rest 260 = .ok (.ifCond .eq 12, 3) := by decide +kernel
theorem dX10_rest_263 : decode cX10_rest 263 = .ok (.aload_n 0, 1) := by decide +kernel
theorem dX10_rest_264 : decode cX10_rest 264 = .ok (.iload_n 1, 1) := by decide +kernel
theorem dX10_rest_265 : decode cX10_rest 265 = .ok (.iconst 0, 1) := by decide +kernel
theorem dX10_rest_266 : decode cX10_rest 266 = .ok (.invokevirtual 264, 3) := by decide +kernel
theorem dX10_rest_269 : decode cX10_rest 269 = .ok (.ifCond .ne 5, 3) := by decide +kernel
theorem dX10_rest_272 : decode cX10_rest 272 = .ok (.iconst 0, 1) := by decide +kernel
theorem dX10_rest_273 : decode cX10_rest 273 = .ok (.ireturn, 1) := by decide +kernel
theorem dX10_rest_274 : decode cX10_rest 274 = .ok (.aload_n 0, 1) := by decide +kernel
theorem dX10_rest_275 : decode cX10_rest 275 = .ok (.invokevirtual 234, 3) := by decide +kernel
theorem dX10_rest_278 : decode cX10_rest 278 = .ok (.bipush 13, 2) := by decide +kernel
theorem dX10_rest_280 : decode cX10_rest 280 = .ok (.if_icmp .eq 5, 3) := by decide +kernel
theorem dX10_rest_283 : decode cX10_rest 283 = .ok (.iconst 1, 1) := by decide +kernel
theorem dX10_rest_284 : decode cX10_rest 284 = .ok (.ireturn, 1) := by decide +kernel
theorem dX10_rest_285 : decode cX10_rest 285 = .ok (.aload_n 0, 1) := by decide +kernel
theorem dX10_rest_286 : decode cX10_rest 286 = .ok (.bipush 13, 2) := by decide +kernel
theorem dX10_rest_288 : decode cX10_rest 288 = .ok (.invokevirtual 237, 3) := by decide +kernel
theorem dX10_rest_291 : decode cX10_rest 291 = .ok (.aload_n 0, 1) := by decide +kernel
theorem dX10_rest_292 : decode cX10_rest 292 = .ok (.iload_n 1, 1) := by decide +kernel
theorem dX10_rest_293 : decode cX10_rest 293 = .ok (.iconst 1, 1) := by decide +kernel
theorem dX10_rest_294 : decode cX10_rest 294 = .ok (.invokevirtual 264, 3) := by decide +kernel
theorem dX10_rest_297 : decode cX10_rest 297 = .ok (.ireturn, 1) := by decide +kernel
theorem dX10_rest_298 : decode cX10_rest 298 = .ok (.aload_n 0, 1) := by decide +kernel
theorem dX10_rest_299 : decode cX10_rest 299 = .ok (.iload_n 1, 1) := by decide +kernel
theorem dX10_rest_300 : decode cX10_rest 300 = .ok (.iconst 0, 1) := by decide +kernel
theorem dX10_rest_301 : decode cX10_rest 301 = .ok (.invokevirtual 264, 3) := by decide +kernel
theorem dX10_rest_304 : decode cX10_rest 304 = .ok (.ifCond .eq 25, 3) := by decide +kernel
theorem dX10_rest_307 : decode cX10_rest 307 = .ok (.aload_n 0, 1) := by decide +kernel
theorem dX10_rest_308 : decode cX10_rest 308 = .ok (.bipush 13, 2) := by decide +kernel
theorem dX10_rest_310 : decode cX10_rest 310 = .ok (.invokevirtual 271, 3) := by decide +kernel
theorem dX10_rest_313 : decode cX10_rest 313 = .ok (.ifCond .eq 16, 3) := by decide +kernel
theorem dX10_rest_316 : decode cX10_rest 316 = .ok (.aload_n 0, 1) := by decide +kernel
theorem dX10_rest_317 : decode cX10_rest 317 = .ok (.iload_n 1, 1) := by decide +kernel
theorem dX10_rest_318 : decode cX10_rest 318 = .ok (.iconst 1, 1) := by decide +kernel
theorem dX10_rest_319 : decode cX10_rest 319 = .ok (.invokevirtual 264, 3) := by decide +kernel
theorem dX10_rest_322 : decode cX10_rest 322 = .ok (.ifCond .eq 7, 3) := by decide +kernel
theorem dX10_rest_325 : decode cX10_rest 325 = .ok (.iconst 1, 1) := by decide +kernel
theorem dX10_rest_326 : decode cX10_rest 326 = .ok (.goto 4, 3) := by decide +kernel
theorem dX10_rest_329 : decode cX10_rest 329 = .ok (.iconst 0, 1) := by decide +kernel
theorem dX10_rest_330 : decode cX10_rest 330 = .ok (.ireturn, 1) := by decide +kernel
theorem dX10_rest_331 : decode cX10_rest 331 = .ok (.aload_n 0, 1) := by decide +kernel
theorem dX10_rest_332 : decode cX10_rest 332 = .ok (.iload_n 1, 1) := by decide +kernel
theorem dX10_rest_333 : decode cX10_rest 333 = .ok (.iconst 0, 1) := by decide +kernel
theorem dX10_rest_334 : decode cX10_rest 334 = .ok (.invokevirtual 264, 3) := by decide +kernel
theorem dX10_rest_337 : decode cX10_rest 337 = .ok (.ifCond .eq 25, 3) := by decide +kernel
theorem dX10_rest_340 : decode cX10_rest 340 = .ok (.aload_n 0, 1) := by decide +kernel
theorem dX10_rest_341 : decode cX10_rest 341 = .ok (.bipush 12, 2) := by decide +kernel
theorem dX10_rest_343 : decode cX10_rest 343 = .ok (.invokevirtual 271, 3) := by decide +kernel
theorem dX10_rest_346 : decode cX10_rest 346 = .ok (.ifCond .eq 16, 3) := by decide +kernel
theorem dX10_rest_349 : decode cX10_rest 349 = .ok (.aload_n 0, 1) := by decide +kernel
theorem dX10_rest_350 : decode cX10_rest 350 = .ok (.iload_n 1, 1) := by decide +kernel
theorem dX10_rest_351 : decode cX10_rest 351 = .ok (.iconst 1, 1) := by decide +kernel
theorem dX10_rest_352 : decode cX10_rest 352 = .ok (.invokevirtual 264, 3) := by decide +kernel
theorem dX10_rest_355 : decode cX10_rest 355 = .ok (.ifCond .eq 7, 3) := by decide +kernel
theorem dX10_rest_358 : decode cX10_rest 358 = .ok (.iconst 1, 1) := by decide +kernel
theorem dX10_rest_359 : decode cX10_rest 359 = .ok (.goto 4, 3) := by decide +kernel
theorem dX10_rest_362 : decode cX10_rest 362 = .ok (.iconst 0, 1) := by decide +kernel
theorem dX10_rest_363 : decode cX10_rest 363 = .ok (.ireturn, 1) := by decide +kernel
theorem dX10_single_0 : decode cX10_single 0 = .ok (.aload_n 0, 1) := by decide +kernel
theorem dX10_single_1 : decode cX10_single 1 = .ok (.iload_n 2, 1) := by decide +kernel
theorem dX10_single_2 : decode cX10_single 2 = .ok (.iload_n 3, 1) := by decide +kernel
theorem dX10_single_3 : decode cX10_single 3 = .ok (.invokevirtual 274, 3) := by decide +kernel
theorem dX10_single_6 : decode cX10_single 6 = .ok (.ifCond .ne 5, 3) := by decide +kernel
theorem dX10_single_9 : decode cX10_single 9 = .ok (.iconst 0, 1) := by decide +kernel
theorem dX10_single_10 : decode cX10_single 10 = .ok (.ireturn, 1) := by decide +kernel
theorem dX10_single_11 : decode cX10_single 11 = .ok (.aload_n 0, 1) := by decide +kernel
theorem dX10_single_12 : decode cX10_single 12 = .ok (.getfield 63, 3) := by decide +kernel
theorem dX10_single_15 : decode cX10_single 15 = .ok (.iload_n 1, 1) := by decide +kernel
theorem dX10_single_16 : decode cX10_single 16 = .ok (.aload_n 0, 1) := by decide +kernel
theorem dX10_single_17 : decode cX10_single 17 = .ok (.getfield 243, 3) := by decide +kernel
theorem dX10_single_20 : decode cX10_single 20 = .ok (.iastore, 1) := by decide +kernel
theorem dX10_single_21 : decode cX10_single 21 = .ok (.iconst 1, 1) := by decide +kernel
theorem dX10_single_22 : decode cX10_single 22 = .ok (.ireturn, 1) := by decide +kernel
theorem dX10_numbers_0 : decode cX10_numbers 0 = .ok (.aload_n 0, 1) := by decide +kernel
theorem dX10_numbers_1 : decode cX10_numbers 1 = .ok (.iload_n 1, 1) := by decide +kernel
theorem dX10_numbers_2 : decode cX10_numbers 2 = .ok (.iconst 0, 1) := by decide +kernel
theorem dX10_numbers_3 : decode cX10_numbers 3 = .ok (.iload_n 2, 1) := by decide +kernel
theorem dX10_numbers_4 : decode cX10_numbers 4 = .ok (.invokevirtual 261, 3) := by decide +kernel
theorem dX10_numbers_7 : decode cX10_numbers 7 = .ok (.ifCond .eq 12, 3) := by decide +kernel
theorem dX10_numbers_10 : decode cX10_numbers 10 = .ok (.aload_n 0, 1) := by decide +kernel
theorem dX10_numbers_11 : decode cX10_numbers 11 = .ok (.iconst 1, 1) := by decide +kernel
theorem dX10_numbers_12 : decode cX10_numbers 12 = .ok (.iload_n 3, 1) := by decide +kernel
theorem dX10_numbers_13 : decode cX10_numbers 13 = .ok (.invokevirtual 274, 3) := by decide +kernel
theorem dX10_numbers_16 : decode cX10_numbers 16 = .ok (.ifCond .ne 5, 3) := by decide +kernel
theorem dX10_numbers_19 : decode cX10_numbers 19 = .ok (.iconst 0, 1) := by decide +kernel
theorem dX10_numbers_20 : decode cX10_numbers 20 = .ok (.ireturn, 1) := by decide +kernel
theorem dX10_numbers_21 : decode cX10_numbers 21 = .ok (.aload_n 0, 1) := by decide +kernel
theorem dX10_numbers_22 : decode cX10_numbers 22 = .ok (.getfield 66, 3) := by decide +kernel
theorem dX10_numbers_25 : decode cX10_numbers 25 = .ok (.iload_n 1, 1) := by decide +kernel
theorem dX10_numbers_26 : decode cX10_numbers 26 = .ok (.aload_n 0, 1) := by decide +kernel
theorem dX10_numbers_27 : decode cX10_numbers 27 = .ok (.getfield 243, 3) := by decide +kernel
theorem dX10_numbers_30 : decode cX10_numbers 30 = .ok (.iastore, 1) := by decide +kernel
theorem dX10_numbers_31 : decode cX10_numbers 31 = .ok (.iconst 1, 1) := by decide +kernel
theorem dX10_numbers_32 : decode cX10_numbers 32 = .ok (.ireturn, 1) := by decide +kernel
theorem dX10_test_0 : decode cX10_test 0 = .ok (.aload_n 0, 1) := by decide +kernel
theorem dX10_test_1 : decode cX10_test 1 = .ok (.invokevirtual 234, 3) := by decide +kernel
theorem dX10_test_4 : decode cX10_test 4 = .ok (.istore_n 2, 1) := by decide +kernel
theorem dX10_test_5 : decode cX10_test 5 = .ok (.iload_n 2, 1) := by decide +kernel
theorem dX10_test_6 : decode cX10_test 6 = .ok (.bipush 14, 2) := by decide +kernel
theorem dX10_test_8 : decode cX10_test 8 = .ok (.if_icmp .ge 13, 3) := by decide +kernel
theorem dX10_test_11 : decode cX10_test 11 = .ok (.aload_n 0, 1) := by decide +kernel
theorem dX10_test_12 : decode cX10_test 12 = .ok (.iconst 1, 1) := by decide +kernel
theorem dX10_test_13 : decode cX10_test 13 = .ok (.aload_n 0, 1) := by decide +kernel
theorem dX10_test_14 : decode cX10_test 14 = .ok (.getfield 168, 3) := by decide +kernel
theorem dX10_test_17 : decode cX10_test 17 = .ok (.invokevirtual 231, 3) := by decide +kernel
theorem dX10_test_20 : decode cX10_test 20 = .ok (.ireturn, 1) := by decide +kernel
theorem dX10_test_21 : decode cX10_test 21 = .ok (.aload_n 0, 1) := by decide +kernel
theorem dX10_test_22 : decode cX10_test 22 = .ok (.getfield 69, 3) := by decide +kernel
theorem dX10_test_25 : decode cX10_test 25 = .ok (.iload_n 1, 1) := by decide +kernel
theorem dX10_test_26 : decode cX10_test 26 = .ok (.iload_n 2, 1) := by decide +kernel
theorem dX10_test_27 : decode cX10_test 27 = .ok (.iastore, 1) := by decide +kernel
theorem dX10_test_28 : decode cX10_test 28 = .ok (.aload_n 0, 1) := by decide +kernel
theorem dX10_test_29 : decode cX10_test 29 = .ok (.iload_n 2, 1) := by decide +kernel
theorem dX10_test_30 : decode cX10_test 30 = .ok (.invokevirtual 237, 3) := by decide +kernel
theorem dX10_test_33 : decode cX10_test 33 = .ok (.iload_n 2, 1) := by decide +kernel
theorem dX10_test_34 : decode cX10_test 34 = .ok (.bipush 17, 2) := by decide +kernel
theorem dX10_test_36 : decode cX10_test 36 = .ok (.if_icmp .lt 15, 3) := by decide +kernel
theorem dX10_test_39 : decode cX10_test 39 = .ok (.aload_n 0, 1) := by decide +kernel
theorem dX10_test_40 : decode cX10_test 40 = .ok (.iload_n 1, 1) := by decide +kernel
theorem dX10_test_41 : decode cX10_test 41 = .ok (.iconst 0, 1) := by decide +kernel
theorem dX10_test_42 : decode cX10_test 42 = .ok (.iconst 5, 1) := by decide +kernel
theorem dX10_test_43 : decode cX10_test 43 = .ok (.invokevirtual 261, 3) := by decide +kernel
theorem dX10_test_46 : decode cX10_test 46 = .ok (.ifCond .ne 5, 3) := by decide +kernel
theorem dX10_test_49 : decode cX10_test 49 = .ok (.iconst 0, 1) := by decide +kernel
theorem dX10_test_50 : decode cX10_test 50 = .ok (.ireturn, 1) := by decide +kernel
theorem dX10_test_51 : decode cX10_test 51 = .ok (.aload_n 0, 1) := by decide +kernel
theorem dX10_test_52 : decode cX10_test 52 = .ok (.invokevirtual 208, 3) := by decide +kernel
theorem dX10_test_55 : decode cX10_test 55 = .ok (.aload_n 0, 1) := by decide +kernel
theorem dX10_test_56 : decode cX10_test 56 = .ok (.bipush 60, 2) := by decide +kernel
theorem dX10_test_58 : decode cX10_test 58 = .ok (.invokevirtual 228, 3) := by decide +kernel
theorem dX10_test_61 : decode cX10_test 61 = .ok (.ifCond .ne 22, 3) := by decide +kernel
theorem dX10_test_64 : decode cX10_test 64 = .ok (.aload_n 0, 1) := by decide +kernel
theorem dX10_test_65 : decode cX10_test 65 = .ok (.bipush 61, 2) := by decide +kernel
theorem dX10_test_67 : decode cX10_test 67 = .ok (.invokevirtual 228, 3) := by decide +kernel
theorem dX10_test_70 : decode cX10_test 70 = .ok (.ifCond .ne 13, 3) := by decide +kernel
theorem dX10_test_73 : decode cX10_test 73 = .ok (.aload_n 0, 1) := by decide +kernel
theorem dX10_test_74 : decode cX10_test 74 = .ok (.iconst 1, 1) := by decide +kernel
theorem dX10_test_75 : decode cX10_test 75 = .ok (.aload_n 0, 1) := by decide +kernel
theorem dX10_test_76 : decode cX10_test 76 = .ok (.getfield 168, 3) := by decide +kernel
theorem dX10_test_79 : decode cX10_test 79 = .ok (.invokevirtual 231, 3) := by decide +kernel
theorem dX10_test_82 : decode cX10_test 82 = .ok (.ireturn, 1) := by decide +kernel
theorem dX10_test_83 : decode cX10_test 83 = .ok (.aload_n 0, 1) := by decide +kernel
theorem dX10_test_84 : decode cX10_test 84 = .ok (.getfield 72, 3) := by decide +kernel
theorem dX10_test_87 : decode cX10_test 87 = .ok (.iload_n 1, 1) := by decide +kernel
theorem dX10_test_88 : decode cX10_test 88 = .ok (.aload_n 0, 1) := by decide +kernel
theorem dX10_test_89 : decode cX10_test 89 = .ok (.getfield 53, 3) := by decide +kernel
theorem dX10_test_92 : decode cX10_test 92 = .ok (.aload_n 0, 1) := by decide +kernel
theorem dX10_test_93 : decode cX10_test 93 = .ok (.getfield 168, 3) := by decide +kernel
theorem dX10_test_96 : decode cX10_test 96 = .ok (.iaload, 1) := by decide +kernel
theorem dX10_test_97 : decode cX10_test 97 = .ok (.iastore, 1) := by decide +kernel
theorem dX10_test_98 : decode cX10_test 98 = .ok (.aload_n 0, 1) := by decide +kernel
theorem dX10_test_99 : decode cX10_test 99 = .ok (.dup, 1) := by decide +kernel
theorem dX10_test_100 : decode cX10_test 100 = .ok (.getfield 168, 3) := by decide +kernel
theorem dX10_test_103 : decode cX10_test 103 = .ok (.iconst 1, 1) := by decide +kernel
theorem dX10_test_104 : decode cX10_test 104 = .ok (.iadd, 1) := by decide +kernel
theorem dX10_test_105 : decode cX10_test 105 = .ok (.putfield 168, 3) := by decide +kernel
theorem dX10_test_108 : decode cX10_test 108 = .ok (.aload_n 0, 1) := by decide +kernel
theorem dX10_test_109 : decode cX10_test 109 = .ok (.iconst 0, 1) := by decide +kernel
theorem dX10_test_110 : decode cX10_test 110 = .ok (.sipush 9999, 3) := by decide +kernel
theorem dX10_test_113 : decode cX10_test 113 = .ok (.invokevirtual 274, 3) := by decide +kernel
theorem dX10_test_116 : decode cX10_test 116 = .ok (.ifCond .ne 5, 3) := by decide +kernel
theorem dX10_test_119 : decode cX10_test 119 = .ok (.iconst 0, 1) := by decide +kernel
theorem dX10_test_120 : decode cX10_test 120 = .ok (.ireturn, 1) := by decide +kernel
theorem dX10_test_121 : decode cX10_test 121 = .ok (.aload_n 0, 1) := by decide +kernel
theorem dX10_test_122 : decode cX10_test 122 = .ok (.getfield 66, 3) := by decide +kernel
theorem dX10_test_125 : decode cX10_test 125 = .ok (.iload_n 1, 1) := by decide +kernel
theorem dX10_test_126 : decode cX10_test 126 = .ok (.aload_n 0, 1) := by decide +kernel
theorem dX10_test_127 : decode cX10_test 127 = .ok (.getfield 243, 3) := by decide +kernel
theorem dX10_test_130 : decode cX10_test 130 = .ok (.iastore, 1) := by decide +kernel
theorem dX10_test_131 : decode cX10_test 131 = .ok (.iconst 1, 1) := by decide +kernel
theorem dX10_test_132 : decode cX10_test 132 = .ok (.ireturn, 1) := by decide +kernel
theorem dX10_block_0 : decode cX10_block 0 = .ok (.aload_n 0, 1) := by decide +kernel
theorem dX10_block_1 : decode cX10_block 1 = .ok (.bipush 123, 2) := by decide +kernel
theorem dX10_block_3 : decode cX10_block 3 = .ok (.invokevirtual 228, 3) := by decide +kernel
theorem dX10_block_6 : decode cX10_block 6 = .ok (.ifCond .ne 13, 3) := by decide +kernel
theorem dX10_block_9 : decode cX10_block 9 = .ok (.aload_n 0, 1) := by decide +kernel
theorem dX10_block_10 : decode cX10_block 10 = .ok (.iconst 1, 1) := by decide +kernel
theorem dX10_block_11 : decode cX10_block 11 = .ok (.aload_n 0, 1) := by decide +kernel
theorem dX10_block_12 : decode cX10_block 12 = .ok (.getfield 168, 3) := by decide +kernel
theorem dX10_block_15 : decode cX10_block 15 = .ok (.invokevirtual 231, 3) := by decide +kernel
theorem dX10_block_18 : decode cX10_block 18 = .ok (.ireturn, 1) := by decide +kernel
theorem dX10_block_19 : decode cX10_block 19 = .ok (.aload_n 0, 1) := by decide +kernel
theorem dX10_block_20 : decode cX10_block 20 = .ok (.getfield 277, 3) := by decide +kernel
theorem dX10_block_23 : decode cX10_block 23 = .ok (.bipush 8, 2) := by decide +kernel
theorem dX10_block_25 : decode cX10_block 25 = .ok (.if_icmp .ne 13, 3) := by decide +kernel
theorem dX10_block_28 : decode cX10_block 28 = .ok (.aload_n 0, 1) := by decide +kernel
theorem dX10_block_29 : decode cX10_block 29 = .ok (.iconst 2, 1) := by decide +kernel
theorem dX10_block_30 : decode cX10_block 30 = .ok (.aload_n 0, 1) := by decide +kernel
theorem dX10_block_31 : decode cX10_block 31 = .ok (.getfield 168, 3) := by decide +kernel
theorem dX10_block_34 : decode cX10_block 34 = .ok (.invokevirtual 231, 3) := by decide +kernel
theorem dX10_block_37 : decode cX10_block 37 = .ok (.ireturn, 1) := by decide +kernel
theorem dX10_block_38 : decode cX10_block 38 = .ok (.aload_n 0, 1) := by decide +kernel
theorem dX10_block_39 : decode cX10_block 39 = .ok (.dup, 1) := by decide +kernel
theorem dX10_block_40 : decode cX10_block 40 = .ok (.getfield 277, 3) := by decide +kernel
theorem dX10_block_43 : decode cX10_block 43 = .ok (.iconst 1, 1) := by decide +kernel
theorem dX10_block_44 : decode cX10_block 44 = .ok (.iadd, 1) := by decide +kernel
theorem dX10_block_45 : decode cX10_block 45 = .ok (.putfield 277, 3) := by decide +kernel
theorem dX10_block_48 : decode cX10_block 48 = .ok (.aload_n 0, 1) := by decide +kernel
theorem dX10_block_49 : decode cX10_block 49 = .ok (.dup, 1) := by decide +kernel
theorem dX10_block_50 : decode cX10_block 50 = .ok (.getfield 168, 3) := by decide +kernel
theorem dX10_block_53 : decode cX10_block 53 = .ok (.iconst 1, 1) := by decide +kernel
theorem dX10_block_54 : decode cX10_block 54 = .ok (.iadd, 1) := by decide +kernel
theorem dX10_block_55 : decode cX10_block 55 = .ok (.putfield 168, 3) := by decide +kernel
theorem dX10_block_58 : decode cX10_block 58 = .ok (.aload_n 0, 1) := by decide +kernel
theorem dX10_block_59 : decode cX10_block 59 = .ok (.iconst 1, 1) := by decide +kernel
theorem dX10_block_60 : decode cX10_block 60 = .ok (.invokevirtual 280, 3) := by decide +kernel
theorem dX10_block_63 : decode cX10_block 63 = .ok (.istore_n 3, 1) := by decide +kernel
theorem dX10_block_64 : decode cX10_block 64 = .ok (.aload_n 0, 1) := by decide +kernel
theorem dX10_block_65 : decode cX10_block 65 = .ok (.dup, 1) := by decide +kernel
theorem dX10_block_66 : decode cX10_block 66 = .ok (.getfield 277, 3) := by decide +kernel
theorem dX10_block_69 : decode cX10_block 69 = .ok (.iconst 1, 1) := by decide +kernel
theorem dX10_block_70 : decode cX10_block 70 = .ok (.isub, 1) := by decide +kernel
theorem dX10_block_71 : decode cX10_block 71 = .ok (.putfield 277, 3) := by decide +kernel
theorem dX10_block_74 : decode cX10_block 74 = .ok (.iload_n 3, 1) := by decide +kernel
theorem dX10_block_75 : decode cX10_block 75 = .ok (.bipush (-2), 2) := by decide +kernel
theorem dX10_block_77 : decode cX10_block 77 = .ok (.if_icmp .ne 5, 3) := by decide +kernel
theorem dX10_block_80 : decode cX10_block 80 = .ok (.iconst 0, 1) := by decide +kernel
theorem dX10_block_81 : decode cX10_block 81 = .ok (.ireturn, 1) := by decide +kernel
theorem dX10_block_82 : decode cX10_block 82 = .ok (.iload_n 2, 1) := by decide +kernel
theorem dX10_block_83 : decode cX10_block 83 = .ok (.ifCond .eq 13, 3) := by decide +kernel
theorem dX10_block_86 : decode cX10_block 86 = .ok (.aload_n 0, 1) := by decide +kernel
theorem dX10_block_87 : decode cX10_block 87 = .ok (.getfield 78, 3) := by decide +kernel
theorem dX10_block_90 : decode cX10_block 90 = .ok (.iload_n 1, 1) := by decide +kernel
theorem dX10_block_91 : decode cX10_block 91 = .ok (.iload_n 3, 1) := by decide +kernel
theorem dX10_block_92 : decode cX10_block 92 = .ok (.iastore, 1) := by decide +kernel
theorem dX10_block_93 : decode cX10_block 93 = .ok (.goto 10, 3) := by decide +kernel
theorem dX10_block_96 : decode cX10_block 96 = .ok (.aload_n 0, 1) := by decide +kernel
theorem dX10_block_97 : decode cX10_block 97 = .ok (.getfield 75, 3) := by decide +kernel
theorem dX10_block_100 : decode cX10_block 100 = .ok (.iload_n 1, 1) := by decide +kernel
theorem dX10_block_101 : decode cX10_block 101 = .ok (.iload_n 3, 1) := by decide +kernel
