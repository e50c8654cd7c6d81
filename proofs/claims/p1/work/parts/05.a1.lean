theorem dX9_matching_76 : decode cX9_matching 76 = .ok (.ifCond .eq 12, 3) := by decide +kernel
theorem dX9_matching_79 : decode cX9_matching 79 = .ok (.iload 4, 2) := by decide +kernel
theorem dX9_matching_81 : decode cX9_matching 81 = .ok (.iconst 1, 1) := by decide +kernel
theorem dX9_matching_82 : decode cX9_matching 82 = .ok (.iload 5, 2) := by decide +kernel
theorem dX9_matching_84 : decode cX9_matching 84 = .ok (.ishl, 1) := by decide +kernel
theorem dX9_matching_85 : decode cX9_matching 85 = .ok (.ior, 1) := by decide +kernel
theorem dX9_matching_86 : decode cX9_matching 86 = .ok (.istore 4, 2) := by decide +kernel
theorem dX9_matching_88 : decode cX9_matching 88 = .ok (.iinc 5 1, 3) := by decide +kernel
theorem dX9_matching_91 : decode cX9_matching 91 = .ok (.goto (-61), 3) := by decide +kernel
theorem dX9_matching_94 : decode cX9_matching 94 = .ok (.iload 4, 2) := by decide +kernel
theorem dX9_matching_96 : decode cX9_matching 96 = .ok (.ireturn, 1) := by decide +kernel
theorem dX9_clothAt_0 : decode cX9_clothAt 0 = .ok (.iload_n 1, 1) := by decide +kernel
theorem dX9_clothAt_1 : decode cX9_clothAt 1 = .ok (.ifCond .lt 20, 3) := by decide +kernel
theorem dX9_clothAt_4 : decode cX9_clothAt 4 = .ok (.iload_n 1, 1) := by decide +kernel
theorem dX9_clothAt_5 : decode cX9_clothAt 5 = .ok (.aload_n 0, 1) := by decide +kernel
theorem dX9_clothAt_6 : decode cX9_clothAt 6 = .ok (.getfield 92, 3) := by decide +kernel
theorem dX9_clothAt_9 : decode cX9_clothAt 9 = .ok (.if_icmp .ge 12, 3) := by decide +kernel
theorem dX9_clothAt_12 : decode cX9_clothAt 12 = .ok (.iload_n 1, 1) := by decide +kernel
theorem dX9_clothAt_13 : decode cX9_clothAt 13 = .ok (.aload_n 0, 1) := by decide +kernel
theorem dX9_clothAt_14 : decode cX9_clothAt 14 = .ok (.getfield 18, 3) := by decide +kernel
theorem dX9_clothAt_17 : decode cX9_clothAt 17 = .ok (.arraylength, 1) := by decide +kernel
theorem dX9_clothAt_18 : decode cX9_clothAt 18 = .ok (.if_icmp .lt 13, 3) := by decide +kernel
theorem dX9_clothAt_21 : decode cX9_clothAt 21 = .ok (.new 149, 3) := by decide +kernel
theorem dX9_clothAt_24 : decode cX9_clothAt 24 = .ok (.dup, 1) := by decide +kernel
theorem dX9_clothAt_25 : decode cX9_clothAt 25 = .ok (.ldc 250, 2) := by decide +kernel
theorem dX9_clothAt_27 : decode cX9_clothAt 27 = .ok (.invokespecial 153, 3) := by decide +kernel
theorem dX9_clothAt_30 : decode cX9_clothAt 30 = .ok (.athrow, 1) := by decide +kernel
theorem dX9_clothAt_31 : decode cX9_clothAt 31 = .ok (.aload_n 0, 1) := by decide +kernel
theorem dX9_clothAt_32 : decode cX9_clothAt 32 = .ok (.getfield 18, 3) := by decide +kernel
theorem dX9_clothAt_35 : decode cX9_clothAt 35 = .ok (.iload_n 1, 1) := by decide +kernel
theorem dX9_clothAt_36 : decode cX9_clothAt 36 = .ok (.aaload, 1) := by decide +kernel
theorem dX9_clothAt_37 : decode cX9_clothAt 37 = .ok (.astore_n 2, 1) := by decide +kernel
theorem dX9_clothAt_38 : decode cX9_clothAt 38 = .ok (.aload_n 2, 1) := by decide +kernel
theorem dX9_clothAt_39 : decode cX9_clothAt 39 = .ok (.ifnonnull 13, 3) := by decide +kernel
theorem dX9_clothAt_42 : decode cX9_clothAt 42 = .ok (.new 149, 3) := by decide +kernel
theorem dX9_clothAt_45 : decode cX9_clothAt 45 = .ok (.dup, 1) := by decide +kernel
theorem dX9_clothAt_46 : decode cX9_clothAt 46 = .ok (.ldc 250, 2) := by decide +kernel
theorem dX9_clothAt_48 : decode cX9_clothAt 48 = .ok (.invokespecial 153, 3) := by decide +kernel
theorem dX9_clothAt_51 : decode cX9_clothAt 51 = .ok (.athrow, 1) := by decide +kernel
theorem dX9_clothAt_52 : decode cX9_clothAt 52 = .ok (.aload_n 2, 1) := by decide +kernel
theorem dX9_clothAt_53 : decode cX9_clothAt 53 = .ok (.areturn, 1) := by decide +kernel
theorem dX9_demand_0 : decode cX9_demand 0 = .ok (.iload_n 0, 1) := by decide +kernel
theorem dX9_demand_1 : decode cX9_demand 1 = .ok (.ifCond .ne 13, 3) := by decide +kernel
theorem dX9_demand_4 : decode cX9_demand 4 = .ok (.new 252, 3) := by decide +kernel
theorem dX9_demand_7 : decode cX9_demand 7 = .ok (.dup, 1) := by decide +kernel
theorem dX9_demand_8 : decode cX9_demand 8 = .ok (.ldc 254, 2) := by decide +kernel
theorem dX9_demand_10 : decode cX9_demand 10 = .ok (.invokespecial 256, 3) := by decide +kernel
theorem dX9_demand_13 : decode cX9_demand 13 = .ok (.athrow, 1) := by decide +kernel
theorem dX9_demand_14 : decode cX9_demand 14 = .ok (.return_, 1) := by decide +kernel
theorem dX9_append_0 : decode cX9_append 0 = .ok (.bipush 24, 2) := by decide +kernel
theorem dX9_append_2 : decode cX9_append 2 = .ok (.istore_n 2, 1) := by decide +kernel
theorem dX9_append_3 : decode cX9_append 3 = .ok (.iload_n 2, 1) := by decide +kernel
theorem dX9_append_4 : decode cX9_append 4 = .ok (.ifCond .lt 51, 3) := by decide +kernel
theorem dX9_append_7 : decode cX9_append 7 = .ok (.aload_n 0, 1) := by decide +kernel
theorem dX9_append_8 : decode cX9_append 8 = .ok (.getfield 124, 3) := by decide +kernel
theorem dX9_append_11 : decode cX9_append 11 = .ok (.ifCond .lt 38, 3) := by decide +kernel
theorem dX9_append_14 : decode cX9_append 14 = .ok (.aload_n 0, 1) := by decide +kernel
theorem dX9_append_15 : decode cX9_append 15 = .ok (.getfield 124, 3) := by decide +kernel
theorem dX9_append_18 : decode cX9_append 18 = .ok (.aload_n 0, 1) := by decide +kernel
theorem dX9_append_19 : decode cX9_append 19 = .ok (.getfield 22, 3) := by decide +kernel
theorem dX9_append_22 : decode cX9_append 22 = .ok (.arraylength, 1) := by decide +kernel
theorem dX9_append_23 : decode cX9_append 23 = .ok (.if_icmp .ge 26, 3) := by decide +kernel
theorem dX9_append_26 : decode cX9_append 26 = .ok (.aload_n 0, 1) := by decide +kernel
theorem dX9_append_27 : decode cX9_append 27 = .ok (.getfield 22, 3) := by decide +kernel
theorem dX9_append_30 : decode cX9_append 30 = .ok (.aload_n 0, 1) := by decide +kernel
theorem dX9_append_31 : decode cX9_append 31 = .ok (.getfield 124, 3) := by decide +kernel
theorem dX9_append_34 : decode cX9_append 34 = .ok (.iload_n 1, 1) := by decide +kernel
theorem dX9_append_35 : decode cX9_append 35 = .ok (.iload_n 2, 1) := by decide +kernel
theorem dX9_append_36 : decode cX9_append 36 = .ok (.ishr, 1) := by decide +kernel
theorem dX9_append_37 : decode cX9_append 37 = .ok (.i2b, 1) := by decide +kernel
theorem dX9_append_38 : decode cX9_append 38 = .ok (.bastore, 1) := by decide +kernel
theorem dX9_append_39 : decode cX9_append 39 = .ok (.aload_n 0, 1) := by decide +kernel
theorem dX9_append_40 : decode cX9_append 40 = .ok (.dup, 1) := by decide +kernel
theorem dX9_append_41 : decode cX9_append 41 = .ok (.getfield 124, 3) := by decide +kernel
theorem dX9_append_44 : decode cX9_append 44 = .ok (.iconst 1, 1) := by decide +kernel
theorem dX9_append_45 : decode cX9_append 45 = .ok (.iadd, 1) := by decide +kernel
theorem dX9_append_46 : decode cX9_append 46 = .ok (.putfield 124, 3) := by decide +kernel
theorem dX9_append_49 : decode cX9_append 49 = .ok (.iinc 2 (-8), 3) := by decide +kernel
theorem dX9_append_52 : decode cX9_append 52 = .ok (.goto (-49), 3) := by decide +kernel
theorem dX9_append_55 : decode cX9_append 55 = .ok (.return_, 1) := by decide +kernel
theorem dX10_init_0 : decode cX10_init 0 = .ok (.aload_n 0, 1) := by decide +kernel
theorem dX10_init_1 : decode cX10_init 1 = .ok (.invokespecial 1, 3) := by decide +kernel
theorem dX10_init_4 : decode cX10_init 4 = .ok (.aload_n 0, 1) := by decide +kernel
theorem dX10_init_5 : decode cX10_init 5 = .ok (.bipush 6, 2) := by decide +kernel
theorem dX10_init_7 : decode cX10_init 7 = .ok (.newarray .int, 2) := by decide +kernel
theorem dX10_init_9 : decode cX10_init 9 = .ok (.putfield 7, 3) := by decide +kernel
theorem dX10_init_12 : decode cX10_init 12 = .ok (.aload_n 0, 1) := by decide +kernel
theorem dX10_init_13 : decode cX10_init 13 = .ok (.bipush 6, 2) := by decide +kernel
theorem dX10_init_15 : decode cX10_init 15 = .ok (.newarray .int, 2) := by decide +kernel
theorem dX10_init_17 : decode cX10_init 17 = .ok (.putfield 13, 3) := by decide +kernel
theorem dX10_init_20 : decode cX10_init 20 = .ok (.aload_n 0, 1) := by decide +kernel
theorem dX10_init_21 : decode cX10_init 21 = .ok (.bipush 6, 2) := by decide +kernel
theorem dX10_init_23 : decode cX10_init 23 = .ok (.newarray .int, 2) := by decide +kernel
theorem dX10_init_25 : decode cX10_init 25 = .ok (.putfield 16, 3) := by decide +kernel
theorem dX10_init_28 : decode cX10_init 28 = .ok (.aload_n 0, 1) := by decide +kernel
theorem dX10_init_29 : decode cX10_init 29 = .ok (.bipush 6, 2) := by decide +kernel
theorem dX10_init_31 : decode cX10_init 31 = .ok (.newarray .int, 2) := by decide +kernel
theorem dX10_init_33 : decode cX10_init 33 = .ok (.dup, 1) := by decide +kernel
theorem dX10_init_34 : decode cX10_init 34 = .ok (.iconst 0, 1) := by decide +kernel
theorem dX10_init_35 : decode cX10_init 35 = .ok (.iconst 2, 1) := by decide +kernel
theorem dX10_init_36 : decode cX10_init 36 = .ok (.iastore, 1) := by decide +kernel
theorem dX10_init_37 : decode cX10_init 37 = .ok (.dup, 1) := by decide +kernel
theorem dX10_init_38 : decode cX10_init 38 = .ok (.iconst 1, 1) := by decide +kernel
theorem dX10_init_39 : decode cX10_init 39 = .ok (.iconst 2, 1) := by decide +kernel
theorem dX10_init_40 : decode cX10_init 40 = .ok (.iastore, 1) := by decide +kernel
theorem dX10_init_41 : decode cX10_init 41 = .ok (.dup, 1) := by decide +kernel
theorem dX10_init_42 : decode cX10_init 42 = .ok (.iconst 2, 1) := by decide +kernel
theorem dX10_init_43 : decode cX10_init 43 = .ok (.iconst 2, 1) := by decide +kernel
theorem dX10_init_44 : decode cX10_init 44 = .ok (.iastore, 1) := by decide +kernel
theorem dX10_init_45 : decode cX10_init 45 = .ok (.dup, 1) := by decide +kernel
theorem dX10_init_46 : decode cX10_init 46 = .ok (.iconst 3, 1) := by decide +kernel
theorem dX10_init_47 : decode cX10_init 47 = .ok (.iconst 2, 1) := by decide +kernel
theorem dX10_init_48 : decode cX10_init 48 = .ok (.iastore, 1) := by decide +kernel
theorem dX10_init_49 : decode cX10_init 49 = .ok (.dup, 1) := by decide +kernel
theorem dX10_init_50 : decode cX10_init 50 = .ok (.iconst 4, 1) := by decide +kernel
theorem dX10_init_51 : decode cX10_init 51 = .ok (.iconst 2, 1) := by decide +kernel
theorem dX10_init_52 : decode cX10_init 52 = .ok (.iastore, 1) := by decide +kernel
theorem dX10_init_53 : decode cX10_init 53 = .ok (.dup, 1) := by decide +kernel
theorem dX10_init_54 : decode cX10_init 54 = .ok (.iconst 5, 1) := by decide +kernel
theorem dX10_init_55 : decode cX10_init 55 = .ok (.iconst 2, 1) := by decide +kernel
theorem dX10_init_56 : decode cX10_init 56 = .ok (.iastore, 1) := by decide +kernel
theorem dX10_init_57 : decode cX10_init 57 = .ok (.putfield 19, 3) := by decide +kernel
theorem dX10_init_60 : decode cX10_init 60 = .ok (.aload_n 0, 1) := by decide +kernel
theorem dX10_init_61 : decode cX10_init 61 = .ok (.bipush 6, 2) := by decide +kernel
theorem dX10_init_63 : decode cX10_init 63 = .ok (.newarray .int, 2) := by decide +kernel
theorem dX10_init_65 : decode cX10_init 65 = .ok (.putfield 22, 3) := by decide +kernel
theorem dX10_init_68 : decode cX10_init 68 = .ok (.aload_n 0, 1) := by decide +kernel
theorem dX10_init_69 : decode cX10_init 69 = .ok (.bipush 6, 2) := by decide +kernel
theorem dX10_init_71 : decode cX10_init 71 = .ok (.newarray .int, 2) := by decide +kernel
theorem dX10_init_73 : decode cX10_init 73 = .ok (.putfield 25, 3) := by decide +kernel
theorem dX10_init_76 : decode cX10_init 76 = .ok (.aload_n 0, 1) := by decide +kernel
theorem dX10_init_77 : decode cX10_init 77 = .ok (.bipush 6, 2) := by decide +kernel
theorem dX10_init_79 : decode cX10_init 79 = .ok (.newarray .boolean, 2) := by decide +kernel
theorem dX10_init_81 : decode cX10_init 81 = .ok (.putfield 28, 3) := by decide +kernel
theorem dX10_init_84 : decode cX10_init 84 = .ok (.aload_n 0, 1) := by decide +kernel
theorem dX10_init_85 : decode cX10_init 85 = .ok (.bipush 6, 2) := by decide +kernel
theorem dX10_init_87 : decode cX10_init 87 = .ok (.newarray .boolean, 2) := by decide +kernel
theorem dX10_init_89 : decode cX10_init 89 = .ok (.putfield 32, 3) := by decide +kernel
theorem dX10_init_92 : decode cX10_init 92 = .ok (.aload_n 0, 1) := by decide +kernel
theorem dX10_init_93 : decode cX10_init 93 = .ok (.bipush 30, 2) := by decide +kernel
theorem dX10_init_95 : decode cX10_init 95 = .ok (.newarray .int, 2) := by decide +kernel
theorem dX10_init_97 : decode cX10_init 97 = .ok (.putfield 35, 3) := by decide +kernel
theorem dX10_init_100 : decode cX10_init 100 = .ok (.aload_n 0, 1) := by decide +kernel
theorem dX10_init_101 : decode cX10_init 101 = .ok (.bipush 30, 2) := by decide +kernel
theorem dX10_init_103 : decode cX10_init 103 = .ok (.newarray .int, 2) := by decide +kernel
theorem dX10_init_105 : decode cX10_init 105 = .ok (.putfield 38, 3) := by decide +kernel
theorem dX10_init_108 : decode cX10_init 108 = .ok (.aload_n 0, 1) := by decide +kernel
theorem dX10_init_109 : decode cX10_init 109 = .ok (.bipush 30, 2) := by decide +kernel
theorem dX10_init_111 : decode cX10_init 111 = .ok (.newarray .int, 2) := by decide +kernel
theorem dX10_init_113 : decode cX10_init 113 = .ok (.putfield 41, 3) := by decide +kernel
theorem dX10_init_116 : decode cX10_init 116 = .ok (.aload_n 0, 1) := by decide +kernel
theorem dX10_init_117 : decode cX10_init 117 = .ok (.bipush 30, 2) := by decide +kernel
theorem dX10_init_119 : decode cX10_init 119 = .ok (.newarray .int, 2) := by decide +kernel
theorem dX10_init_121 : decode cX10_init 121 = .ok (.putfield 44, 3) := by decide +kernel
theorem dX10_init_124 : decode cX10_init 124 = .ok (.aload_n 0, 1) := by decide +kernel
theorem dX10_init_125 : decode cX10_init 125 = .ok (.bipush 30, 2) := by decide +kernel
theorem dX10_init_127 : decode cX10_init 127 = .ok (.newarray .int, 2) := by decide +kernel
theorem dX10_init_129 : decode cX10_init 129 = .ok (.putfield 47, 3) := by decide +kernel
theorem dX10_init_132 : decode cX10_init 132 = .ok (.aload_n 0, 1) := by decide +kernel
theorem dX10_init_133 : decode cX10_init 133 = .ok (.bipush 30, 2) := by decide +kernel
theorem dX10_init_135 : decode cX10_init 135 = .ok (.newarray .int, 2) := by decide +kernel
theorem dX10_init_137 : decode cX10_init 137 = .ok (.putfield 50, 3) := by decide +kernel
theorem dX10_init_140 : decode cX10_init 140 = .ok (.aload_n 0, 1) := by decide +kernel
theorem dX10_init_141 : decode cX10_init 141 = .ok (.sipush 1500, 3) := by decide +kernel
theorem dX10_init_144 : decode cX10_init 144 = .ok (.newarray .int, 2) := by decide +kernel
theorem dX10_init_146 : decode cX10_init 146 = .ok (.putfield 53, 3) := by decide +kernel
theorem dX10_init_149 : decode cX10_init 149 = .ok (.aload_n 0, 1) := by decide +kernel
theorem dX10_init_150 : decode cX10_init 150 = .ok (.iconst (-1), 1) := by decide +kernel
theorem dX10_init_151 : decode cX10_init 151 = .ok (.putfield 56, 3) := by decide +kernel
theorem dX10_init_154 : decode cX10_init 154 = .ok (.aload_n 0, 1) := by decide +kernel
theorem dX10_init_155 : decode cX10_init 155 = .ok (.sipush 2700, 3) := by decide +kernel
theorem dX10_init_158 : decode cX10_init 158 = .ok (.newarray .int, 2) := by decide +kernel
theorem dX10_init_160 : decode cX10_init 160 = .ok (.putfield 60, 3) := by decide +kernel
theorem dX10_init_163 : decode cX10_init 163 = .ok (.aload_n 0, 1) := by decide +kernel
theorem dX10_init_164 : decode cX10_init 164 = .ok (.sipush 2700, 3) := by decide +kernel
theorem dX10_init_167 : decode cX10_init 167 = .ok (.newarray .int, 2) := by decide +kernel
theorem dX10_init_169 : decode cX10_init 169 = .ok (.putfield 63, 3) := by decide +kernel
theorem dX10_init_172 : decode cX10_init 172 = .ok (.aload_n 0, 1) := by decide +kernel
theorem dX10_init_173 : decode cX10_init 173 = .ok (.sipush 2700, 3) := by decide +kernel
theorem dX10_init_176 : decode cX10_init 176 = .ok (.newarray .int, 2) := by decide +kernel
theorem dX10_init_178 : decode cX10_init 178 = .ok (.putfield 66, 3) := by decide +kernel
theorem dX10_init_181 : decode cX10_init 181 = .ok (.aload_n 0, 1) := by decide +kernel
theorem dX10_init_182 : decode cX10_init 182 = .ok (.sipush 2700, 3) := by decide +kernel
theorem dX10_init_185 : decode cX10_init 185 = .ok (.newarray .int, 2) := by decide +kernel
theorem dX10_init_187 : decode cX10_init 187 = .ok (.putfield 69, 3) := by decide +kernel
theorem dX10_init_190 : decode cX10_init 190 = .ok (.aload_n 0, 1) := by decide +kernel
theorem dX10_init_191 : decode cX10_init 191 = .ok (.sipush 2700, 3) := by decide +kernel
theorem dX10_init_194 : decode cX10_init 194 = .ok (.newarray .int, 2) := by decide +kernel
theorem dX10_init_196 : decode cX10_init 196 = .ok (.putfield 72, 3) := by decide +kernel
theorem dX10_init_199 : decode cX10_init 199 = .ok (.aload_n 0, 1) := by decide +kernel
theorem dX10_init_200 : decode cX10_init 200 = .ok (.sipush 2700, 3) := by decide +kernel
theorem dX10_init_203 : decode cX10_init 203 = .ok (.newarray .int, 2) := by decide +kernel
theorem dX10_init_205 : decode cX10_init 205 = .ok (.putfield 75, 3) := by decide +kernel
theorem dX10_init_208 : decode cX10_init 208 = .ok (.aload_n 0, 1) := by decide +kernel
theorem dX10_init_209 : decode cX10_init 209 = .ok (.sipush 2700, 3) := by decide +kernel
theorem dX10_init_212 : decode cX10_init 212 = .ok (.newarray .int, 2) := by decide +kernel
theorem dX10_init_214 : decode cX10_init 214 = .ok (.putfield 78, 3) := by decide +kernel
theorem dX10_init_217 : decode cX10_init 217 = .ok (.aload_n 0, 1) := by decide +kernel
theorem dX10_init_218 : decode cX10_init 218 = .ok (.sipush 2700, 3) := by decide +kernel
theorem dX10_init_221 : decode cX10_init 221 = .ok (.newarray .int, 2) := by decide +kernel
theorem dX10_init_223 : decode cX10_init 223 = .ok (.putfield 81, 3) := by decide +kernel
theorem dX10_init_226 : decode cX10_init 226 = .ok (.aload_n 0, 1) := by decide +kernel
theorem dX10_init_227 : decode cX10_init 227 = .ok (.bipush 8, 2) := by decide +kernel
theorem dX10_init_229 : decode cX10_init 229 = .ok (.newarray .int, 2) := by decide +kernel
theorem dX10_init_231 : decode cX10_init 231 = .ok (.putfield 84, 3) := by decide +kernel
theorem dX10_init_234 : decode cX10_init 234 = .ok (.aload_n 0, 1) := by decide +kernel
theorem dX10_init_235 : decode cX10_init 235 = .ok (.bipush 8, 2) := by decide +kernel
theorem dX10_init_237 : decode cX10_init 237 = .ok (.newarray .int, 2) := by decide +kernel
theorem dX10_init_239 : decode cX10_init 239 = .ok (.putfield 87, 3) := by decide +kernel
theorem dX10_init_242 : decode cX10_init 242 = .ok (.aload_n 0, 1) := by decide +kernel
theorem dX10_init_243 : decode cX10_init 243 = .ok (.iconst (-1), 1) := by decide +kernel
theorem dX10_init_244 : decode cX10_init 244 = .ok (.putfield 90, 3) := by decide +kernel
theorem dX10_init_247 : decode cX10_init 247 = .ok (.aload_n 0, 1) := by decide +kernel
theorem dX10_init_248 : decode cX10_init 248 = .ok (.iconst 3, 1) := by decide +kernel
theorem dX10_init_249 : decode cX10_init 249 = .ok (.newarray .int, 2) := by decide +kernel
theorem dX10_init_251 : decode cX10_init 251 = .ok (.putfield 93, 3) := by decide +kernel
theorem dX10_init_254 : decode cX10_init 254 = .ok (.aload_n 0, 1) := by decide +kernel
theorem dX10_init_255 : decode cX10_init 255 = .ok (.iconst 3, 1) := by decide +kernel
theorem dX10_init_256 : decode cX10_init 256 = .ok (.newarray .int, 2) := by decide +kernel
theorem dX10_init_258 : decode cX10_init 258 = .ok (.putfield 96, 3) := by decide +kernel
theorem dX10_init_261 : decode cX10_init 261 = .ok (.aload_n 0, 1) := by decide +kernel
theorem dX10_init_262 : decode cX10_init 262 = .ok (.iconst 3, 1) := by decide +kernel
theorem dX10_init_263 : decode cX10_init 263 = .ok (.newarray .int, 2) := by decide +kernel
theorem dX10_init_265 : decode cX10_init 265 = .ok (.putfield 99, 3) := by decide +kernel
theorem dX10_init_268 : decode cX10_init 268 = .ok (.aload_n 0, 1) := by decide +kernel
theorem dX10_init_269 : decode cX10_init 269 = .ok (.bipush 104, 2) := by decide +kernel
theorem dX10_init_271 : decode cX10_init 271 = .ok (.newarray .int, 2) := by decide +kernel
theorem dX10_init_273 : decode cX10_init 273 = .ok (.putfield 102, 3) := by decide +kernel
theorem dX10_init_276 : decode cX10_init 276 = .ok (.iconst 0, 1) := by decide +kernel
theorem dX10_init_277 : decode cX10_init 277 = .ok (.istore_n 1, 1) := by decide +kernel
theorem dX10_init_278 : decode cX10_init 278 = .ok (.iload_n 1, 1) := by decide +kernel
theorem dX10_init_279 : decode cX10_init 279 = .ok (.bipush 30, 2) := by decide +kernel
theorem dX10_init_281 : decode cX10_init 281 = .ok (.if_icmp .ge 16, 3) := by decide +kernel
theorem dX10_init_284 : decode cX10_init 284 = .ok (.aload_n 0, 1) := by decide +kernel
theorem dX10_init_285 : decode cX10_init 285 = .ok (.getfield 44, 3) := by decide +kernel
theorem dX10_init_288 : decode cX10_init 288 = .ok (.iload_n 1, 1) := by decide +kernel
theorem dX10_init_289 : decode cX10_init 289 = .ok (.iconst (-1), 1) := by decide +kernel
theorem dX10_init_290 : decode cX10_init 290 = .ok (.iastore, 1) := by decide +kernel
theorem dX10_init_291 : decode cX10_init 291 = .ok (.iinc 1 1, 3) := by decide +kernel
theorem dX10_init_294 : decode cX10_init 294 = .ok (.goto (-16), 3) := by decide +kernel
theorem dX10_init_297 : decode cX10_init 297 = .ok (.iconst 0, 1) := by decide +kernel
theorem dX10_init_298 : decode cX10_init 298 = .ok (.istore_n 1, 1) := by decide +kernel
theorem dX10_init_299 : decode cX10_init 299 = .ok (.iload_n 1, 1) := by decide +kernel
theorem dX10_init_300 : decode cX10_init 300 = .ok (.bipush 8, 2) := by decide +kernel
theorem dX10_init_302 : decode cX10_init 302 = .ok (.if_icmp .ge 16, 3) := by decide +kernel
theorem dX10_init_305 : decode cX10_init 305 = .ok (.aload_n 0, 1) := by decide +kernel
theorem dX10_init_306 : decode cX10_init 306 = .ok (.getfield 84, 3) := by decide +kernel
theorem dX10_init_309 : decode cX10_init 309 = .ok (.iload_n 1, 1) := by decide +kernel
theorem dX10_init_310 : decode cX10_init 310 = .ok (.iconst (-1), 1) := by decide +kernel
theorem dX10_init_311 : decode cX10_init 311 = .ok (.iastore, 1) := by decide +kernel
theorem dX10_init_312 : decode cX10_init 312 = .ok (.iinc 1 1, 3) := by decide +kernel
theorem dX10_init_315 : decode cX10_init 315 = .ok (.goto (-16), 3) := by decide +kernel
theorem dX10_init_318 : decode cX10_init 318 = .ok (.return_, 1) := by decide +kernel
theorem dX10_thrown_0 : decode cX10_thrown 0 = .ok (.aload_n 0, 1) := by decide +kernel
theorem dX10_thrown_1 : decode cX10_thrown 1 = .ok (.getfield 105, 3) := by decide +kernel
theorem dX10_thrown_4 : decode cX10_thrown 4 = .ok (.ireturn, 1) := by decide +kernel
theorem dX10_right_0 : decode cX10_right 0 = .ok (.aload_n 0, 1) := by decide +kernel
theorem dX10_right_1 : decode cX10_right 1 = .ok (.getfield 105, 3) := by decide +kernel
theorem dX10_right_4 : decode cX10_right 4 = .ok (.ifCond .ne 12, 3) := by decide +kernel
theorem dX10_right_7 : decode cX10_right 7 = .ok (.iload_n 1, 1) := by decide +kernel
theorem dX10_right_8 : decode cX10_right 8 = .ok (.ifCond .ne 8, 3) := by decide +kernel
theorem dX10_right_11 : decode cX10_right 11 = .ok (.aload_n 0, 1) := by decide +kernel
theorem dX10_right_12 : decode cX10_right 12 = .ok (.iload_n 2, 1) := by decide +kernel
theorem dX10_right_13 : decode cX10_right 13 = .ok (.putfield 105, 3) := by decide +kernel
theorem dX10_right_16 : decode cX10_right 16 = .ok (.aload_n 0, 1) := by decide +kernel
theorem dX10_right_17 : decode cX10_right 17 = .ok (.getfield 105, 3) := by decide +kernel
theorem dX10_right_20 : decode cX10_right 20 = .ok (.ifCond .ne 7, 3) := by decide +kernel
theorem dX10_right_23 : decode cX10_right 23 = .ok (.iconst 1, 1) := by decide +kernel
theorem dX10_right_24 : decode cX10_right 24 = .ok (.goto 4, 3) := by decide +kernel
theorem dX10_right_27 : decode cX10_right 27 = .ok (.iconst 0, 1) := by decide +kernel
theorem dX10_right_28 : decode cX10_right 28 = .ok (.ireturn, 1) := by decide +kernel
theorem dX10_isVat_0 : decode cX10_isVat 0 = .ok (.aload_n 0, 1) := by decide +kernel
theorem dX10_isVat_1 : decode cX10_isVat 1 = .ok (.iconst 0, 1) := by decide +kernel
theorem dX10_isVat_2 : decode cX10_isVat 2 = .ok (.putfield 105, 3) := by decide +kernel
theorem dX10_isVat_5 : decode cX10_isVat 5 = .ok (.aload_n 0, 1) := by decide +kernel
theorem dX10_isVat_6 : decode cX10_isVat 6 = .ok (.iload_n 1, 1) := by decide +kernel
theorem dX10_isVat_7 : decode cX10_isVat 7 = .ok (.ifCond .lt 13, 3) := by decide +kernel
theorem dX10_isVat_10 : decode cX10_isVat 10 = .ok (.iload_n 1, 1) := by decide +kernel
theorem dX10_isVat_11 : decode cX10_isVat 11 = .ok (.bipush 6, 2) := by decide +kernel
theorem dX10_isVat_13 : decode cX10_isVat 13 = .ok (.if_icmp .ge 7, 3) := by decide +kernel
theorem dX10_isVat_16 : decode cX10_isVat 16 = .ok (.iconst 1, 1) := by decide +kernel
theorem dX10_isVat_17 : decode cX10_isVat 17 = .ok (.goto 4, 3) := by decide +kernel
theorem dX10_isVat_20 : decode cX10_isVat 20 = .ok (.iconst 0, 1) := by decide +kernel
theorem dX10_isVat_21 : decode cX10_isVat 21 = .ok (.iconst 1, 1) := by decide +kernel
theorem dX10_isVat_22 : decode cX10_isVat 22 = .ok (.invokevirtual 108, 3) := by decide +kernel
theorem dX10_isVat_25 : decode cX10_isVat 25 = .ok (.ireturn, 1) := by decide +kernel
theorem dX10_isCloth_0 : decode cX10_isCloth 0 = .ok (.aload_n 0, 1) := by decide +kernel
theorem dX10_isCloth_1 : decode cX10_isCloth 1 = .ok (.iconst 0, 1) := by decide +kernel
theorem dX10_isCloth_2 : decode cX10_isCloth 2 = .ok (.putfield 105, 3) := by decide +kernel
theorem dX10_isCloth_5 : decode cX10_isCloth 5 = .ok (.aload_n 0, 1) := by decide +kernel
theorem dX10_isCloth_6 : decode cX10_isCloth 6 = .ok (.iload_n 1, 1) := by decide +kernel
theorem dX10_isCloth_7 : decode cX10_isCloth 7 = .ok (.ifCond .lt 15, 3) := by decide +kernel
theorem dX10_isCloth_10 : decode cX10_isCloth 10 = .ok (.iload_n 1, 1) := by decide +kernel
theorem dX10_isCloth_11 : decode cX10_isCloth 11 = .ok (.aload_n 0, 1) := by decide +kernel
theorem dX10_isCloth_12 : decode cX10_isCloth 12 = .ok (.getfield 112, 3) := by decide +kernel
theorem dX10_isCloth_15 : decode cX10_isCloth 15 = .ok (.if_icmp .ge 7, 3) := by decide +kernel
theorem dX10_isCloth_18 : decode cX10_isCloth 18 = .ok (.iconst 1, 1) := by decide +kernel
theorem dX10_isCloth_19 : decode cX10_isCloth 19 = .ok (.goto 4, 3) := by decide +kernel
theorem dX10_isCloth_22 : decode cX10_isCloth 22 = .ok (.iconst 0, 1) := by decide +kernel
theorem dX10_isCloth_23 : decode cX10_isCloth 23 = .ok (.iconst 1, 1) := by decide +kernel
theorem dX10_isCloth_24 : decode cX10_isCloth 24 = .ok (.invokevirtual 108, 3) := by decide +kernel
theorem dX10_isCloth_27 : decode cX10_isCloth 27 = .ok (.ireturn, 1) := by decide +kernel
theorem dX10_charge_0 : decode cX10_charge 0 = .ok (.aload_n 0, 1) := by decide +kernel
theorem dX10_charge_1 : decode cX10_charge 1 = .ok (.iload_n 1, 1) := by decide +kernel
theorem dX10_charge_2 : decode cX10_charge 2 = .ok (.invokevirtual 115, 3) := by decide +kernel
theorem dX10_charge_5 : decode cX10_charge 5 = .ok (.ifCond .ne 5, 3) := by decide +kernel
theorem dX10_charge_8 : decode cX10_charge 8 = .ok (.iconst 0, 1) := by decide +kernel
theorem dX10_charge_9 : decode cX10_charge 9 = .ok (.ireturn, 1) := by decide +kernel
theorem dX10_charge_10 : decode cX10_charge 10 = .ok (.iload_n 2, 1) := by decide +kernel
theorem dX10_charge_11 : decode cX10_charge 11 = .ok (.iconst 1, 1) := by decide +kernel
theorem dX10_charge_12 : decode cX10_charge 12 = .ok (.if_icmp .lt 16, 3) := by decide +kernel
theorem dX10_charge_15 : decode cX10_charge 15 = .ok (.iload_n 2, 1) := by decide +kernel
theorem dX10_charge_16 : decode cX10_charge 16 = .ok (.ldc 119, 2) := by decide +kernel
theorem dX10_charge_18 : decode cX10_charge 18 = .ok (.aload_n 0, 1) := by decide +kernel
theorem dX10_charge_19 : decode cX10_charge 19 = .ok (.getfield 7, 3) := by decide +kernel
theorem dX10_charge_22 : decode cX10_charge 22 = .ok (.iload_n 1, 1) := by decide +kernel
theorem dX10_charge_23 : decode cX10_charge 23 = .ok (.iaload, 1) := by decide +kernel
theorem dX10_charge_24 : decode cX10_charge 24 = .ok (.isub, 1) := by decide +kernel
theorem dX10_charge_25 : decode cX10_charge 25 = .ok (.if_icmp .le 5, 3) := by decide +kernel
theorem dX10_charge_28 : decode cX10_charge 28 = .ok (.iconst (-1), 1) := by decide +kernel
theorem dX10_charge_29 : decode cX10_charge 29 = .ok (.ireturn, 1) := by decide +kernel
theorem dX10_charge_30 : decode cX10_charge 30 = .ok (.aload_n 0, 1) := by decide +kernel
theorem dX10_charge_31 : decode cX10_charge 31 = .ok (.getfield 7, 3) := by decide +kernel
theorem dX10_charge_34 : decode cX10_charge 34 = .ok (.iload_n 1, 1) := by decide +kernel
theorem dX10_charge_35 : decode cX10_charge 35 = .ok (.dup2, 1) := by decide +kernel
theorem dX10_charge_36 : decode cX10_charge 36 = .ok (.iaload, 1) := by decide +kernel
theorem dX10_charge_37 : decode cX10_charge 37 = .ok (.iload_n 2, 1) := by decide +kernel
theorem dX10_charge_38 : decode cX10_charge 38 = .ok (.iadd, 1) := by decide +kernel
theorem dX10_charge_39 : decode cX10_charge 39 = .ok (.iastore, 1) := by decide +kernel
theorem dX10_charge_40 : decode cX10_charge 40 = .ok (.aload_n 0, 1) := by decide +kernel
theorem dX10_charge_41 : decode cX10_charge 41 = .ok (.dup, 1) := by decide +kernel
theorem dX10_charge_42 : decode cX10_charge 42 = .ok (.getfield 120, 3) := by decide +kernel
theorem dX10_charge_45 : decode cX10_charge 45 = .ok (.iload_n 2, 1) := by decide +kernel
theorem dX10_charge_46 : decode cX10_charge 46 = .ok (.iadd, 1) := by decide +kernel
theorem dX10_charge_47 : decode cX10_charge 47 = .ok (.putfield 120, 3) := by decide +kernel
theorem dX10_charge_50 : decode cX10_charge 50 = .ok (.aload_n 0, 1) := by decide +kernel
theorem dX10_charge_51 : decode cX10_charge 51 = .ok (.getfield 7, 3) := by decide +kernel
theorem dX10_charge_54 : decode cX10_charge 54 = .ok (.iload_n 1, 1) := by decide +kernel
theorem dX10_charge_55 : decode cX10_charge 55 = .ok (.iaload, 1) := by decide +kernel
theorem dX10_charge_56 : decode cX10_charge 56 = .ok (.ireturn, 1) := by decide +kernel
theorem dX10_feeds_0 : decode cX10_feeds 0 = .ok (.aload_n 0, 1) := by decide +kernel
theorem dX10_feeds_1 : decode cX10_feeds 1 = .ok (.getfield 13, 3) := by decide +kernel
theorem dX10_feeds_4 : decode cX10_feeds 4 = .ok (.iload_n 1, 1) := by decide +kernel
theorem dX10_feeds_5 : decode cX10_feeds 5 = .ok (.dup2, 1) := by decide +kernel
theorem dX10_feeds_6 : decode cX10_feeds 6 = .ok (.iaload, 1) := by decide +kernel
theorem dX10_feeds_7 : decode cX10_feeds 7 = .ok (.iload_n 2, 1) := by decide +kernel
theorem dX10_feeds_8 : decode cX10_feeds 8 = .ok (.iadd, 1) := by decide +kernel
theorem dX10_feeds_9 : decode cX10_feeds 9 = .ok (.iastore, 1) := by decide +kernel
theorem dX10_feeds_10 : decode cX10_feeds 10 = .ok (.aload_n 0, 1) := by decide +kernel
theorem dX10_feeds_11 : decode cX10_feeds 11 = .ok (.getfield 13, 3) := by decide +kernel
theorem dX10_feeds_14 : decode cX10_feeds 14 = .ok (.iload_n 1, 1) := by decide +kernel
theorem dX10_feeds_15 : decode cX10_feeds 15 = .ok (.iaload, 1) := by decide +kernel
theorem dX10_feeds_16 : decode cX10_feeds 16 = .ok (.sipush 1000, 3) := by decide +kernel
theorem dX10_feeds_19 : decode cX10_feeds 19 = .ok (.if_icmp .gt 5, 3) := by decide +kernel
theorem dX10_feeds_22 : decode cX10_feeds 22 = .ok (.iconst 0, 1) := by decide +kernel
theorem dX10_feeds_23 : decode cX10_feeds 23 = .ok (.ireturn, 1) := by decide +kernel
theorem dX10_feeds_24 : decode cX10_feeds 24 = .ok (.aload_n 0, 1) := by decide +kernel
theorem dX10_feeds_25 : decode cX10_feeds 25 = .ok (.getfield 13, 3) := by decide +kernel
theorem dX10_feeds_28 : decode cX10_feeds 28 = .ok (.iload_n 1, 1) := by decide +kernel
theorem dX10_feeds_29 : decode cX10_feeds 29 = .ok (.sipush 1000, 3) := by decide +kernel
theorem dX10_feeds_32 : decode cX10_feeds 32 = .ok (.iastore, 1) := by decide +kernel
theorem dX10_feeds_33 : decode cX10_feeds 33 = .ok (.aload_n 0, 1) := by decide +kernel
theorem dX10_feeds_34 : decode cX10_feeds 34 = .ok (.getfield 19, 3) := by decide +kernel
theorem dX10_feeds_37 : decode cX10_feeds 37 = .ok (.iload_n 1, 1) := by decide +kernel
theorem dX10_feeds_38 : decode cX10_feeds 38 = .ok (.iconst 2, 1) := by decide +kernel
theorem dX10_feeds_39 : decode cX10_feeds 39 = .ok (.iastore, 1) := by decide +kernel
theorem dX10_feeds_40 : decode cX10_feeds 40 = .ok (.iconst 1, 1) := by decide +kernel
theorem dX10_feeds_41 : decode cX10_feeds 41 = .ok (.ireturn, 1) := by decide +kernel
theorem dX10_feed_0 : decode cX10_feed 0 = .ok (.aload_n 0, 1) := by decide +kernel
theorem dX10_feed_1 : decode cX10_feed 1 = .ok (.iload_n 1, 1) := by decide +kernel
theorem dX10_feed_2 : decode cX10_feed 2 = .ok (.invokevirtual 115, 3) := by decide +kernel
theorem dX10_feed_5 : decode cX10_feed 5 = .ok (.ifCond .eq 28, 3) := by decide +kernel
theorem dX10_feed_8 : decode cX10_feed 8 = .ok (.aload_n 0, 1) := by decide +kernel
theorem dX10_feed_9 : decode cX10_feed 9 = .ok (.iload_n 2, 1) := by decide +kernel
theorem dX10_feed_10 : decode cX10_feed 10 = .ok (.iconst 1, 1) := by decide +kernel
theorem dX10_feed_11 : decode cX10_feed 11 = .ok (.if_icmp .lt 14, 3) := by decide +kernel
theorem dX10_feed_14 : decode cX10_feed 14 = .ok (.iload_n 2, 1) := by decide +kernel
theorem dX10_feed_15 : decode cX10_feed 15 = .ok (.sipush 1000, 3) := by decide +kernel
theorem dX10_feed_18 : decode cX10_feed 18 = .ok (.if_icmp .gt 7, 3) := by decide +kernel
theorem dX10_feed_21 : decode cX10_feed 21 = .ok (.iconst 1, 1) := by decide +kernel
theorem dX10_feed_22 : decode cX10_feed 22 = .ok (.goto 4, 3) := by decide +kernel
theorem dX10_feed_25 : decode cX10_feed 25 = .ok (.iconst 0, 1) := by decide +kernel
theorem dX10_feed_26 : decode cX10_feed 26 = .ok (.iconst 2, 1) := by decide +kernel
theorem dX10_feed_27 : decode cX10_feed 27 = .ok (.invokevirtual 108, 3) := by decide +kernel
theorem dX10_feed_30 : decode cX10_feed 30 = .ok (.ifCond .ne 5, 3) := by decide +kernel
theorem dX10_feed_33 : decode cX10_feed 33 = .ok (.iconst 0, 1) := by decide +kernel
theorem dX10_feed_34 : decode cX10_feed 34 = .ok (.ireturn, 1) := by decide +kernel
theorem dX10_feed_35 : decode cX10_feed 35 = .ok (.aload_n 0, 1) := by decide +kernel
theorem dX10_feed_36 : decode cX10_feed 36 = .ok (.iload_n 1, 1) := by decide +kernel
theorem dX10_feed_37 : decode cX10_feed 37 = .ok (.iload_n 2, 1) := by decide +kernel
theorem dX10_feed_38 : decode cX10_feed 38 = .ok (.invokevirtual 123, 3) := by decide +kernel
theorem dX10_feed_41 : decode cX10_feed 41 = .ok (.pop, 1) := by decide +kernel
theorem dX10_feed_42 : decode cX10_feed 42 = .ok (.aload_n 0, 1) := by decide +kernel
theorem dX10_feed_43 : decode cX10_feed 43 = .ok (.getfield 19, 3) := by decide +kernel
theorem dX10_feed_46 : decode cX10_feed 46 = .ok (.iload_n 1, 1) := by decide +kernel
theorem dX10_feed_47 : decode cX10_feed 47 = .ok (.iaload, 1) := by decide +kernel
theorem dX10_feed_48 : decode cX10_feed 48 = .ok (.ireturn, 1) := by decide +kernel
theorem dX10_limes_0 : decode cX10_limes 0 = .ok (.aload_n 0, 1) := by decide +kernel
theorem dX10_limes_1 : decode cX10_limes 1 = .ok (.getfield 19, 3) := by decide +kernel
theorem dX10_limes_4 : decode cX10_limes 4 = .ok (.iload_n 1, 1) := by decide +kernel
theorem dX10_limes_5 : decode cX10_limes 5 = .ok (.iaload, 1) := by decide +kernel
theorem dX10_limes_6 : decode cX10_limes 6 = .ok (.iconst 2, 1) := by decide +kernel
theorem dX10_limes_7 : decode cX10_limes 7 = .ok (.if_icmp .ne 26, 3) := by decide +kernel
theorem dX10_limes_10 : decode cX10_limes 10 = .ok (.aload_n 0, 1) := by decide +kernel
theorem dX10_limes_11 : decode cX10_limes 11 = .ok (.getfield 16, 3) := by decide +kernel
theorem dX10_limes_14 : decode cX10_limes 14 = .ok (.iload_n 1, 1) := by decide +kernel
theorem dX10_limes_15 : decode cX10_limes 15 = .ok (.iconst 0, 1) := by decide +kernel
theorem dX10_limes_16 : decode cX10_limes 16 = .ok (.iastore, 1) := by decide +kernel
theorem dX10_limes_17 : decode cX10_limes 17 = .ok (.aload_n 0, 1) := by decide +kernel
theorem dX10_limes_18 : decode cX10_limes 18 = .ok (.getfield 13, 3) := by decide +kernel
theorem dX10_limes_21 : decode cX10_limes 21 = .ok (.iload_n 1, 1) := by decide +kernel
theorem dX10_limes_22 : decode cX10_limes 22 = .ok (.iaload, 1) := by decide +kernel
theorem dX10_limes_23 : decode cX10_limes 23 = .ok (.ifCond .le 10, 3) := by decide +kernel
theorem dX10_limes_26 : decode cX10_limes 26 = .ok (.aload_n 0, 1) := by decide +kernel
theorem dX10_limes_27 : decode cX10_limes 27 = .ok (.getfield 19, 3) := by decide +kernel
theorem dX10_limes_30 : decode cX10_limes 30 = .ok (.iload_n 1, 1) := by decide +kernel
theorem dX10_limes_31 : decode cX10_limes 31 = .ok (.iconst 1, 1) := by decide +kernel
theorem dX10_limes_32 : decode cX10_limes 32 = .ok (.iastore, 1) := by decide +kernel
theorem dX10_limes_33 : decode cX10_limes 33 = .ok (.aload_n 0, 1) := by decide +kernel
theorem dX10_limes_34 : decode cX10_limes 34 = .ok (.getfield 13, 3) := by decide +kernel
theorem dX10_limes_37 : decode cX10_limes 37 = .ok (.iload_n 1, 1) := by decide +kernel
theorem dX10_limes_38 : decode cX10_limes 38 = .ok (.dup2, 1) := by decide +kernel
theorem dX10_limes_39 : decode cX10_limes 39 = .ok (.iaload, 1) := by decide +kernel
theorem dX10_limes_40 : decode cX10_limes 40 = .ok (.iconst 2, 1) := by decide +kernel
theorem dX10_limes_41 : decode cX10_limes 41 = .ok (.idiv, 1) := by decide +kernel
theorem dX10_limes_42 : decode cX10_limes 42 = .ok (.iastore, 1) := by decide +kernel
theorem dX10_limes_43 : decode cX10_limes 43 = .ok (.return_, 1) := by decide +kernel
theorem dX10_lime_0 : decode cX10_lime 0 = .ok (.aload_n 0, 1) := by decide +kernel
theorem dX10_lime_1 : decode cX10_lime 1 = .ok (.iload_n 1, 1) := by decide +kernel
theorem dX10_lime_2 : decode cX10_lime 2 = .ok (.invokevirtual 115, 3) := by decide +kernel
theorem dX10_lime_5 : decode cX10_lime 5 = .ok (.ifCond .ne 5, 3) := by decide +kernel
theorem dX10_lime_8 : decode cX10_lime 8 = .ok (.iconst 0, 1) := by decide +kernel
theorem dX10_lime_9 : decode cX10_lime 9 = .ok (.ireturn, 1) := by decide +kernel
theorem dX10_lime_10 : decode cX10_lime 10 = .ok (.aload_n 0, 1) := by decide +kernel
theorem dX10_lime_11 : decode cX10_lime 11 = .ok (.iload_n 1, 1) := by decide +kernel
theorem dX10_lime_12 : decode cX10_lime 12 = .ok (.invokevirtual 127, 3) := by decide +kernel
theorem dX10_lime_15 : decode cX10_lime 15 = .ok (.aload_n 0, 1) := by decide +kernel
theorem dX10_lime_16 : decode cX10_lime 16 = .ok (.getfield 19, 3) := by decide +kernel
theorem dX10_lime_19 : decode cX10_lime 19 = .ok (.iload_n 1, 1) := by decide +kernel
theorem dX10_lime_20 : decode cX10_lime 20 = .ok (.iaload, 1) := by decide +kernel
theorem dX10_lime_21 : decode cX10_lime 21 = .ok (.ireturn, 1) := by decide +kernel
theorem dX10_hour_0 : decode cX10_hour 0 = .ok (.aload_n 0, 1) := by decide +kernel
theorem dX10_hour_1 : decode cX10_hour 1 = .ok (.dup, 1) := by decide +kernel
theorem dX10_hour_2 : decode cX10_hour 2 = .ok (.getfield 131, 3) := by decide +kernel
theorem dX10_hour_5 : decode cX10_hour 5 = .ok (.iconst 1, 1) := by decide +kernel
theorem dX10_hour_6 : decode cX10_hour 6 = .ok (.iadd, 1) := by decide +kernel
theorem dX10_hour_7 : decode cX10_hour 7 = .ok (.putfield 131, 3) := by decide +kernel
theorem dX10_hour_10 : decode cX10_hour 10 = .ok (.iconst 0, 1) := by decide +kernel
theorem dX10_hour_11 : decode cX10_hour 11 = .ok (.istore_n 1, 1) := by decide +kernel
theorem dX10_hour_12 : decode cX10_hour 12 = .ok (.iload_n 1, 1) := by decide +kernel
theorem dX10_hour_13 : decode cX10_hour 13 = .ok (.bipush 6, 2) := by decide +kernel
theorem dX10_hour_15 : decode cX10_hour 15 = .ok (.if_icmp .ge 114, 3) := by decide +kernel
theorem dX10_hour_18 : decode cX10_hour 18 = .ok (.aload_n 0, 1) := by decide +kernel
theorem dX10_hour_19 : decode cX10_hour 19 = .ok (.getfield 13, 3) := by decide +kernel
theorem dX10_hour_22 : decode cX10_hour 22 = .ok (.iload_n 1, 1) := by decide +kernel
theorem dX10_hour_23 : decode cX10_hour 23 = .ok (.aload_n 0, 1) := by decide +kernel
theorem dX10_hour_24 : decode cX10_hour 24 = .ok (.getfield 13, 3) := by decide +kernel
theorem dX10_hour_27 : decode cX10_hour 27 = .ok (.iload_n 1, 1) := by decide +kernel
theorem dX10_hour_28 : decode cX10_hour 28 = .ok (.iaload, 1) := by decide +kernel
theorem dX10_hour_29 : decode cX10_hour 29 = .ok (.iconst 5, 1) := by decide +kernel
theorem dX10_hour_30 : decode cX10_hour 30 = .ok (.if_icmp .le 14, 3) := by decide +kernel
theorem dX10_hour_33 : decode cX10_hour 33 = .ok (.aload_n 0, 1) := by decide +kernel
theorem dX10_hour_34 : decode cX10_hour 34 = .ok (.getfield 13, 3) := by decide +kernel
theorem dX10_hour_37 : decode cX10_hour 37 = .ok (.iload_n 1, 1) := by decide +kernel
theorem dX10_hour_38 : decode cX10_hour 38 = .ok (.iaload, 1) := by decide +kernel
theorem dX10_hour_39 : decode cX10_hour 39 = .ok (.iconst 5, 1) := by decide +kernel
theorem dX10_hour_40 : decode cX10_hour 40 = .ok (.isub, 1) := by decide +kernel
theorem dX10_hour_41 : decode cX10_hour 41 = .ok (.goto 4, 3) := by decide +kernel
theorem dX10_hour_44 : decode cX10_hour 44 = .ok (.iconst 0, 1) := by decide +kernel
theorem dX10_hour_45 : decode cX10_hour 45 = .ok (.iastore, 1) := by decide +kernel
theorem dX10_hour_46 : decode cX10_hour 46 = .ok (.aload_n 0, 1) := by decide +kernel
theorem dX10_hour_47 : decode cX10_hour 47 = .ok (.getfield 13, 3) := by decide +kernel
theorem dX10_hour_50 : decode cX10_hour 50 = .ok (.iload_n 1, 1) := by decide +kernel
theorem dX10_hour_51 : decode cX10_hour 51 = .ok (.iaload, 1) := by decide +kernel
theorem dX10_hour_52 : decode cX10_hour 52 = .ok (.ifCond .ne 10, 3) := by decide +kernel
theorem dX10_hour_55 : decode cX10_hour 55 = .ok (.aload_n 0, 1) := by decide +kernel
theorem dX10_hour_56 : decode cX10_hour 56 = .ok (.getfield 19, 3) := by decide +kernel
theorem dX10_hour_59 : decode cX10_hour 59 = .ok (.iload_n 1, 1) := by decide +kernel
theorem dX10_hour_60 : decode cX10_hour 60 = .ok (.iconst 2, 1) := by decide +kernel
theorem dX10_hour_61 : decode cX10_hour 61 = .ok (.iastore, 1) := by decide +kernel
theorem dX10_hour_62 : decode cX10_hour 62 = .ok (.aload_n 0, 1) := by decide +kernel
theorem dX10_hour_63 : decode cX10_hour 63 = .ok (.getfield 19, 3) := by decide +kernel
theorem dX10_hour_66 : decode cX10_hour 66 = .ok (.iload_n 1, 1) := by decide +kernel
theorem dX10_hour_67 : decode cX10_hour 67 = .ok (.iaload, 1) := by decide +kernel
theorem dX10_hour_68 : decode cX10_hour 68 = .ok (.iconst 2, 1) := by decide +kernel
theorem dX10_hour_69 : decode cX10_hour 69 = .ok (.if_icmp .eq 35, 3) := by decide +kernel
theorem dX10_hour_72 : decode cX10_hour 72 = .ok (.aload_n 0, 1) := by decide +kernel
theorem dX10_hour_73 : decode cX10_hour 73 = .ok (.getfield 28, 3) := by decide +kernel
theorem dX10_hour_76 : decode cX10_hour 76 = .ok (.iload_n 1, 1) := by decide +kernel
theorem dX10_hour_77 : decode cX10_hour 77 = .ok (.baload, 1) := by decide +kernel
theorem dX10_hour_78 : decode cX10_hour 78 = .ok (.ifCond .ne 26, 3) := by decide +kernel
theorem dX10_hour_81 : decode cX10_hour 81 = .ok (.aload_n 0, 1) := by decide +kernel
theorem dX10_hour_82 : decode cX10_hour 82 = .ok (.getfield 32, 3) := by decide +kernel
theorem dX10_hour_85 : decode cX10_hour 85 = .ok (.iload_n 1, 1) := by decide +kernel
theorem dX10_hour_86 : decode cX10_hour 86 = .ok (.baload, 1) := by decide +kernel
theorem dX10_hour_87 : decode cX10_hour 87 = .ok (.ifCond .ne 17, 3) := by decide +kernel
theorem dX10_hour_90 : decode cX10_hour 90 = .ok (.aload_n 0, 1) := by decide +kernel
theorem dX10_hour_91 : decode cX10_hour 91 = .ok (.getfield 19, 3) := by decide +kernel
theorem dX10_hour_94 : decode cX10_hour 94 = .ok (.iload_n 1, 1) := by decide +kernel
theorem dX10_hour_95 : decode cX10_hour 95 = .ok (.iconst 0, 1) := by decide +kernel
theorem dX10_hour_96 : decode cX10_hour 96 = .ok (.iastore, 1) := by decide +kernel
theorem dX10_hour_97 : decode cX10_hour 97 = .ok (.aload_n 0, 1) := by decide +kernel
theorem dX10_hour_98 : decode cX10_hour 98 = .ok (.getfield 16, 3) := by decide +kernel
theorem dX10_hour_101 : decode cX10_hour 101 = .ok (.iload_n 1, 1) := by decide +kernel
theorem dX10_hour_102 : decode cX10_hour 102 = .ok (.iconst 0, 1) := by decide +kernel
theorem dX10_hour_103 : decode cX10_hour 103 = .ok (.iastore, 1) := by decide +kernel
theorem dX10_hour_104 : decode cX10_hour 104 = .ok (.aload_n 0, 1) := by decide +kernel
theorem dX10_hour_105 : decode cX10_hour 105 = .ok (.getfield 32, 3) := by decide +kernel
theorem dX10_hour_108 : decode cX10_hour 108 = .ok (.iload_n 1, 1) := by decide +kernel
theorem dX10_hour_109 : decode cX10_hour 109 = .ok (.aload_n 0, 1) := by decide +kernel
theorem dX10_hour_110 : decode cX10_hour 110 = .ok (.getfield 28, 3) := by decide +kernel
theorem dX10_hour_113 : decode cX10_hour 113 = .ok (.iload_n 1, 1) := by decide +kernel
theorem dX10_hour_114 : decode cX10_hour 114 = .ok (.baload, 1) := by decide +kernel
theorem dX10_hour_115 : decode cX10_hour 115 = .ok (.bastore, 1) := by decide +kernel
theorem dX10_hour_116 : decode cX10_hour 116 = .ok (.aload_n 0, 1) := by decide +kernel
theorem dX10_hour_117 : decode cX10_hour 117 = .ok (.getfield 28, 3) := by decide +kernel
theorem dX10_hour_120 : decode cX10_hour 120 = .ok (.iload_n 1, 1) := by decide +kernel
theorem dX10_hour_121 : decode cX10_hour 121 = .ok (.iconst 0, 1) := by decide +kernel
theorem dX10_hour_122 : decode cX10_hour 122 = .ok (.bastore, 1) := by decide +kernel
theorem dX10_hour_123 : decode cX10_hour 123 = .ok (.iinc 1 1, 3) := by decide +kernel
theorem dX10_hour_126 : decode cX10_hour 126 = .ok (.goto (-114), 3) := by decide +kernel
theorem dX10_hour_129 : decode cX10_hour 129 = .ok (.return_, 1) := by decide +kernel
theorem dX10_hours_0 : decode cX10_hours 0 = .ok (.aload_n 0, 1) := by decide +kernel
theorem dX10_hours_1 : decode cX10_hours 1 = .ok (.iconst 0, 1) := by decide +kernel
theorem dX10_hours_2 : decode cX10_hours 2 = .ok (.putfield 105, 3) := by decide +kernel
theorem dX10_hours_5 : decode cX10_hours 5 = .ok (.aload_n 0, 1) := by decide +kernel
theorem dX10_hours_6 : decode cX10_hours 6 = .ok (.iload_n 1, 1) := by decide +kernel
theorem dX10_hours_7 : decode cX10_hours 7 = .ok (.ifCond .lt 14, 3) := by decide +kernel
theorem dX10_hours_10 : decode cX10_hours 10 = .ok (.iload_n 1, 1) := by decide +kernel
theorem dX10_hours_11 : decode cX10_hours 11 = .ok (.sipush 10000, 3) := by decide +kernel
theorem dX10_hours_14 : decode cX10_hours 14 = .ok (.if_icmp .gt 7, 3) := by decide +kernel
theorem dX10_hours_17 : decode cX10_hours 17 = .ok (.iconst 1, 1) := by decide +kernel
theorem dX10_hours_18 : decode cX10_hours 18 = .ok (.goto 4, 3) := by decide +kernel
theorem dX10_hours_21 : decode cX10_hours 21 = .ok (.iconst 0, 1) := by decide +kernel
theorem dX10_hours_22 : decode cX10_hours 22 = .ok (.iconst 1, 1) := by decide +kernel
theorem dX10_hours_23 : decode cX10_hours 23 = .ok (.invokevirtual 108, 3) := by decide +kernel
theorem dX10_hours_26 : decode cX10_hours 26 = .ok (.ifCond .ne 5, 3) := by decide +kernel
theorem dX10_hours_29 : decode cX10_hours 29 = .ok (.iconst 0, 1) := by decide +kernel
theorem dX10_hours_30 : decode cX10_hours 30 = .ok (.ireturn, 1) := by decide +kernel
theorem dX10_hours_31 : decode cX10_hours 31 = .ok (.iconst 0, 1) := by decide +kernel
theorem dX10_hours_32 : decode cX10_hours 32 = .ok (.istore_n 2, 1) := by decide +kernel
theorem dX10_hours_33 : decode cX10_hours 33 = .ok (.iload_n 2, 1) := by decide +kernel
theorem dX10_hours_34 : decode cX10_hours 34 = .ok (.iload_n 1, 1) := by decide +kernel
theorem dX10_hours_35 : decode cX10_hours 35 = .ok (.if_icmp .ge 13, 3) := by decide +kernel
theorem dX10_hours_38 : decode cX10_hours 38 = .ok (.aload_n 0, 1) := by decide +kernel
theorem dX10_hours_39 : decode cX10_hours 39 = .ok (.invokevirtual 134, 3) := by decide +kernel
theorem dX10_hours_42 : decode cX10_hours 42 = .ok (.iinc 2 1, 3) := by decide +kernel
theorem dX10_hours_45 : decode cX10_hours 45 = .ok (.goto (-12), 3) := by decide +kernel
theorem dX10_hours_48 : decode cX10_hours 48 = .ok (.aload_n 0, 1) := by decide +kernel
theorem dX10_hours_49 : decode cX10_hours 49 = .ok (.getfield 131, 3) := by decide +kernel
theorem dX10_hours_52 : decode cX10_hours 52 = .ok (.ireturn, 1) := by decide +kernel
theorem dX10_cloth_0 : decode cX10_cloth 0 = .ok (.aload_n 0, 1) := by decide +kernel
theorem dX10_cloth_1 : decode cX10_cloth 1 = .ok (.iconst 0, 1) := by decide +kernel
theorem dX10_cloth_2 : decode cX10_cloth 2 = .ok (.putfield 105, 3) := by decide +kernel
theorem dX10_cloth_5 : decode cX10_cloth 5 = .ok (.aload_n 0, 1) := by decide +kernel
theorem dX10_cloth_6 : decode cX10_cloth 6 = .ok (.getfield 112, 3) := by decide +kernel
theorem dX10_cloth_9 : decode cX10_cloth 9 = .ok (.bipush 30, 2) := by decide +kernel
theorem dX10_cloth_11 : decode cX10_cloth 11 = .ok (.if_icmp .eq 14, 3) := by decide +kernel
theorem dX10_cloth_14 : decode cX10_cloth 14 = .ok (.iload_n 1, 1) := by decide +kernel
theorem dX10_cloth_15 : decode cX10_cloth 15 = .ok (.iconst 1, 1) := by decide +kernel
theorem dX10_cloth_16 : decode cX10_cloth 16 = .ok (.if_icmp .lt 9, 3) := by decide +kernel
theorem dX10_cloth_19 : decode cX10_cloth 19 = .ok (.iload_n 1, 1) := by decide +kernel
theorem dX10_cloth_20 : decode cX10_cloth 20 = .ok (.bipush 50, 2) := by decide +kernel
theorem dX10_cloth_22 : decode cX10_cloth 22 = .ok (.if_icmp .le 5, 3) := by decide +kernel
theorem dX10_cloth_25 : decode cX10_cloth 25 = .ok (.iconst (-1), 1) := by decide +kernel
theorem dX10_cloth_26 : decode cX10_cloth 26 = .ok (.ireturn, 1) := by decide +kernel
theorem dX10_cloth_27 : decode cX10_cloth 27 = .ok (.aload_n 0, 1) := by decide +kernel
theorem dX10_cloth_28 : decode cX10_cloth 28 = .ok (.getfield 35, 3) := by decide +kernel
theorem dX10_cloth_31 : decode cX10_cloth 31 = .ok (.aload_n 0, 1) := by decide +kernel
theorem dX10_cloth_32 : decode cX10_cloth 32 = .ok (.getfield 112, 3) := by decide +kernel
theorem dX10_cloth_35 : decode cX10_cloth 35 = .ok (.iload_n 1, 1) := by decide +kernel
theorem dX10_cloth_36 : decode cX10_cloth 36 = .ok (.iastore, 1) := by decide +kernel
theorem dX10_cloth_37 : decode cX10_cloth 37 = .ok (.aload_n 0, 1) := by decide +kernel
theorem dX10_cloth_38 : decode cX10_cloth 38 = .ok (.dup, 1) := by decide +kernel
theorem dX10_cloth_39 : decode cX10_cloth 39 = .ok (.getfield 112, 3) := by decide +kernel
theorem dX10_cloth_42 : decode cX10_cloth 42 = .ok (.iconst 1, 1) := by decide +kernel
theorem dX10_cloth_43 : decode cX10_cloth 43 = .ok (.iadd, 1) := by decide +kernel
theorem dX10_cloth_44 : decode cX10_cloth 44 = .ok (.putfield 112, 3) := by decide +kernel
theorem dX10_cloth_47 : decode cX10_cloth 47 = .ok (.aload_n 0, 1) := by decide +kernel
theorem dX10_cloth_48 : decode cX10_cloth 48 = .ok (.getfield 112, 3) := by decide +kernel
theorem dX10_cloth_51 : decode cX10_cloth 51 = .ok (.iconst 1, 1) := by decide +kernel
theorem dX10_cloth_52 : decode cX10_cloth 52 = .ok (.isub, 1) := by decide +kernel
theorem dX10_cloth_53 : decode cX10_cloth 53 = .ok (.ireturn, 1) := by decide +kernel
theorem dX10_dip_0 : decode cX10_dip 0 = .ok (.aload_n 0, 1) := by decide +kernel
theorem dX10_dip_1 : decode cX10_dip 1 = .ok (.iload_n 1, 1) := by decide +kernel
theorem dX10_dip_2 : decode cX10_dip 2 = .ok (.invokevirtual 141, 3) := by decide +kernel
theorem dX10_dip_5 : decode cX10_dip 5 = .ok (.ifCond .eq 35, 3) := by decide +kernel
theorem dX10_dip_8 : decode cX10_dip 8 = .ok (.aload_n 0, 1) := by decide +kernel
theorem dX10_dip_9 : decode cX10_dip 9 = .ok (.iload_n 2, 1) := by decide +kernel
theorem dX10_dip_10 : decode cX10_dip 10 = .ok (.invokevirtual 115, 3) := by decide +kernel
theorem dX10_dip_13 : decode cX10_dip 13 = .ok (.ifCond .eq 27, 3) := by decide +kernel
theorem dX10_dip_16 : decode cX10_dip 16 = .ok (.aload_n 0, 1) := by decide +kernel
theorem dX10_dip_17 : decode cX10_dip 17 = .ok (.iload_n 3, 1) := by decide +kernel
theorem dX10_dip_18 : decode cX10_dip 18 = .ok (.iconst 1, 1) := by decide +kernel
theorem dX10_dip_19 : decode cX10_dip 19 = .ok (.if_icmp .lt 13, 3) := by decide +kernel
theorem dX10_dip_22 : decode cX10_dip 22 = .ok (.iload_n 3, 1) := by decide +kernel
theorem dX10_dip_23 : decode cX10_dip 23 = .ok (.bipush 20, 2) := by decide +kernel
theorem dX10_dip_25 : decode cX10_dip 25 = .ok (.if_icmp .gt 7, 3) := by decide +kernel
theorem dX10_dip_28 : decode cX10_dip 28 = .ok (.iconst 1, 1) := by decide +kernel
theorem dX10_dip_29 : decode cX10_dip 29 = .ok (.goto 4, 3) := by decide +kernel
theorem dX10_dip_32 : decode cX10_dip 32 = .ok (.iconst 0, 1) := by decide +kernel
theorem dX10_dip_33 : decode cX10_dip 33 = .ok (.iconst 2, 1) := by decide +kernel
theorem dX10_dip_34 : decode cX10_dip 34 = .ok (.invokevirtual 108, 3) := by decide +kernel
theorem dX10_dip_37 : decode cX10_dip 37 = .ok (.ifCond .ne 5, 3) := by decide +kernel
theorem dX10_dip_40 : decode cX10_dip 40 = .ok (.iconst 0, 1) := by decide +kernel
theorem dX10_dip_41 : decode cX10_dip 41 = .ok (.ireturn, 1) := by decide +kernel
theorem dX10_dip_42 : decode cX10_dip 42 = .ok (.aload_n 0, 1) := by decide +kernel
theorem dX10_dip_43 : decode cX10_dip 43 = .ok (.getfield 19, 3) := by decide +kernel
theorem dX10_dip_46 : decode cX10_dip 46 = .ok (.iload_n 2, 1) := by decide +kernel
theorem dX10_dip_47 : decode cX10_dip 47 = .ok (.iaload, 1) := by decide +kernel
theorem dX10_dip_48 : decode cX10_dip 48 = .ok (.iconst 2, 1) := by decide +kernel
theorem dX10_dip_49 : decode cX10_dip 49 = .ok (.if_icmp .eq 11, 3) := by decide +kernel
theorem dX10_dip_52 : decode cX10_dip 52 = .ok (.aload_n 0, 1) := by decide +kernel
theorem dX10_dip_53 : decode cX10_dip 53 = .ok (.iload_n 1, 1) := by decide +kernel
theorem dX10_dip_54 : decode cX10_dip 54 = .ok (.invokevirtual 144, 3) := by decide +kernel
theorem dX10_dip_57 : decode cX10_dip 57 = .ok (.ifCond .eq 7, 3) := by decide +kernel
theorem dX10_dip_60 : decode cX10_dip 60 = .ok (.iconst (-1), 1) := by decide +kernel
theorem dX10_dip_61 : decode cX10_dip 61 = .ok (.goto 10, 3) := by decide +kernel
theorem dX10_dip_64 : decode cX10_dip 64 = .ok (.aload_n 0, 1) := by decide +kernel
theorem dX10_dip_65 : decode cX10_dip 65 = .ok (.iload_n 1, 1) := by decide +kernel
theorem dX10_dip_66 : decode cX10_dip 66 = .ok (.iload_n 2, 1) := by decide +kernel
theorem dX10_dip_67 : decode cX10_dip 67 = .ok (.iload_n 3, 1) := by decide +kernel
theorem dX10_dip_68 : decode cX10_dip 68 = .ok (.invokevirtual 147, 3) := by decide +kernel
theorem dX10_dip_71 : decode cX10_dip 71 = .ok (.ireturn, 1) := by decide +kernel
theorem dX10_treat_0 : decode cX10_treat 0 = .ok (.aload_n 0, 1) := by decide +kernel
theorem dX10_treat_1 : decode cX10_treat 1 = .ok (.iload_n 1, 1) := by decide +kernel
theorem dX10_treat_2 : decode cX10_treat 2 = .ok (.invokevirtual 141, 3) := by decide +kernel
theorem dX10_treat_5 : decode cX10_treat 5 = .ok (.ifCond .eq 25, 3) := by decide +kernel
theorem dX10_treat_8 : decode cX10_treat 8 = .ok (.aload_n 0, 1) := by decide +kernel
theorem dX10_treat_9 : decode cX10_treat 9 = .ok (.iload_n 2, 1) := by decide +kernel
theorem dX10_treat_10 : decode cX10_treat 10 = .ok (.ifCond .lt 12, 3) := by decide +kernel
theorem dX10_treat_13 : decode cX10_treat 13 = .ok (.iload_n 2, 1) := by decide +kernel
theorem dX10_treat_14 : decode cX10_treat 14 = .ok (.iconst 2, 1) := by decide +kernel
theorem dX10_treat_15 : decode cX10_treat 15 = .ok (.if_icmp .gt 7, 3) := by decide +kernel
theorem dX10_treat_18 : decode cX10_treat 18 = .ok (.iconst 1, 1) := by decide +kernel
theorem dX10_treat_19 : decode cX10_treat 19 = .ok (.goto 4, 3) := by decide +kernel
theorem dX10_treat_22 : decode cX10_treat 22 = .ok (.iconst 0, 1) := by decide +kernel
theorem dX10_treat_23 : decode cX10_treat 23 = .ok (.iconst 2, 1) := by decide +kernel
theorem dX10_treat_24 : decode cX10_treat 24 = .ok (.invokevirtual 108, 3) := by decide +kernel
theorem dX10_treat_27 : decode cX10_treat 27 = .ok (.ifCond .ne 5, 3) := by decide +kernel
theorem dX10_treat_30 : decode cX10_treat 30 = .ok (.iconst 0, 1) := by decide +kernel
theorem dX10_treat_31 : decode cX10_treat 31 = .ok (.ireturn, 1) := by decide +kernel
theorem dX10_treat_32 : decode cX10_treat 32 = .ok (.aload_n 0, 1) := by decide +kernel
theorem dX10_treat_33 : decode cX10_treat 33 = .ok (.iload_n 1, 1) := by decide +kernel
theorem dX10_treat_34 : decode cX10_treat 34 = .ok (.invokevirtual 144, 3) := by decide +kernel
theorem dX10_treat_37 : decode cX10_treat 37 = .ok (.ifCond .eq 5, 3) := by decide +kernel
theorem dX10_treat_40 : decode cX10_treat 40 = .ok (.iconst (-1), 1) := by decide +kernel
theorem dX10_treat_41 : decode cX10_treat 41 = .ok (.ireturn, 1) := by decide +kernel
theorem dX10_treat_42 : decode cX10_treat 42 = .ok (.iload_n 2, 1) := by decide +kernel
theorem dX10_treat_43 : decode cX10_treat 43 = .ok (.iconst 1, 1) := by decide +kernel
theorem dX10_treat_44 : decode cX10_treat 44 = .ok (.if_icmp .ne 9, 3) := by decide +kernel
theorem dX10_treat_47 : decode cX10_treat 47 = .ok (.aload_n 0, 1) := by decide +kernel
theorem dX10_treat_48 : decode cX10_treat 48 = .ok (.iload_n 1, 1) := by decide +kernel
theorem dX10_treat_49 : decode cX10_treat 49 = .ok (.invokevirtual 152, 3) := by decide +kernel
theorem dX10_treat_52 : decode cX10_treat 52 = .ok (.ireturn, 1) := by decide +kernel
theorem dX10_treat_53 : decode cX10_treat 53 = .ok (.aload_n 0, 1) := by decide +kernel
theorem dX10_treat_54 : decode cX10_treat 54 = .ok (.iload_n 1, 1) := by decide +kernel
theorem dX10_treat_55 : decode cX10_treat 55 = .ok (.invokevirtual 156, 3) := by decide +kernel
theorem dX10_treat_58 : decode cX10_treat 58 = .ok (.istore_n 3, 1) := by decide +kernel
theorem dX10_treat_59 : decode cX10_treat 59 = .ok (.iload_n 2, 1) := by decide +kernel
theorem dX10_treat_60 : decode cX10_treat 60 = .ok (.iconst 2, 1) := by decide +kernel
theorem dX10_treat_61 : decode cX10_treat 61 = .ok (.if_icmp .ne 16, 3) := by decide +kernel
theorem dX10_treat_64 : decode cX10_treat 64 = .ok (.aload_n 0, 1) := by decide +kernel
theorem dX10_treat_65 : decode cX10_treat 65 = .ok (.getfield 44, 3) := by decide +kernel
theorem dX10_treat_68 : decode cX10_treat 68 = .ok (.iload_n 1, 1) := by decide +kernel
theorem dX10_treat_69 : decode cX10_treat 69 = .ok (.aload_n 0, 1) := by decide +kernel
theorem dX10_treat_70 : decode cX10_treat 70 = .ok (.getfield 131, 3) := by decide +kernel
theorem dX10_treat_73 : decode cX10_treat 73 = .ok (.bipush 24, 2) := by decide +kernel
theorem dX10_treat_75 : decode cX10_treat 75 = .ok (.idiv, 1) := by decide +kernel
theorem dX10_treat_76 : decode cX10_treat 76 = .ok (.iastore, 1) := by decide +kernel
theorem dX10_treat_77 : decode cX10_treat 77 = .ok (.iload_n 3, 1) := by decide +kernel
theorem dX10_treat_78 : decode cX10_treat 78 = .ok (.ireturn, 1) := by decide +kernel
theorem dX10_put_0 : decode cX10_put 0 = .ok (.aload_n 0, 1) := by decide +kernel
theorem dX10_put_1 : decode cX10_put 1 = .ok (.iconst 0, 1) := by decide +kernel
theorem dX10_put_2 : decode cX10_put 2 = .ok (.putfield 105, 3) := by decide +kernel
theorem dX10_put_5 : decode cX10_put 5 = .ok (.aload_n 0, 1) := by decide +kernel
theorem dX10_put_6 : decode cX10_put 6 = .ok (.getfield 159, 3) := by decide +kernel
theorem dX10_put_9 : decode cX10_put 9 = .ok (.bipush 20, 2) := by decide +kernel
theorem dX10_put_11 : decode cX10_put 11 = .ok (.iadd, 1) := by decide +kernel
theorem dX10_put_12 : decode cX10_put 12 = .ok (.sipush 1500, 3) := by decide +kernel
theorem dX10_put_15 : decode cX10_put 15 = .ok (.if_icmp .le 5, 3) := by decide +kernel
theorem dX10_put_18 : decode cX10_put 18 = .ok (.iconst (-1), 1) := by decide +kernel
theorem dX10_put_19 : decode cX10_put 19 = .ok (.ireturn, 1) := by decide +kernel
theorem dX10_put_20 : decode cX10_put 20 = .ok (.aload_n 0, 1) := by decide +kernel
theorem dX10_put_21 : decode cX10_put 21 = .ok (.iload_n 1, 1) := by decide +kernel
theorem dX10_put_22 : decode cX10_put 22 = .ok (.invokevirtual 162, 3) := by decide +kernel
theorem dX10_put_25 : decode cX10_put 25 = .ok (.aload_n 0, 1) := by decide +kernel
theorem dX10_put_26 : decode cX10_put 26 = .ok (.iload_n 2, 1) := by decide +kernel
theorem dX10_put_27 : decode cX10_put 27 = .ok (.invokevirtual 162, 3) := by decide +kernel
theorem dX10_put_30 : decode cX10_put 30 = .ok (.aload_n 0, 1) := by decide +kernel
theorem dX10_put_31 : decode cX10_put 31 = .ok (.iload_n 3, 1) := by decide +kernel
theorem dX10_put_32 : decode cX10_put 32 = .ok (.invokevirtual 162, 3) := by decide +kernel
theorem dX10_put_35 : decode cX10_put 35 = .ok (.aload_n 0, 1) := by decide +kernel
theorem dX10_put_36 : decode cX10_put 36 = .ok (.iload 4, 2) := by decide +kernel
theorem dX10_put_38 : decode cX10_put 38 = .ok (.invokevirtual 162, 3) := by decide +kernel
theorem dX10_put_41 : decode cX10_put 41 = .ok (.aload_n 0, 1) := by decide +kernel
theorem dX10_put_42 : decode cX10_put 42 = .ok (.iload 5, 2) := by decide +kernel
theorem dX10_put_44 : decode cX10_put 44 = .ok (.invokevirtual 162, 3) := by decide +kernel
theorem dX10_put_47 : decode cX10_put 47 = .ok (.aload_n 0, 1) := by decide +kernel
theorem dX10_put_48 : decode cX10_put 48 = .ok (.getfield 159, 3) := by decide +kernel
theorem dX10_put_51 : decode cX10_put 51 = .ok (.ireturn, 1) := by decide +kernel
theorem dX10_lays_0 : decode cX10_lays 0 = .ok (.bipush 24, 2) := by decide +kernel
theorem dX10_lays_2 : decode cX10_lays 2 = .ok (.istore_n 2, 1) := by decide +kernel
theorem dX10_lays_3 : decode cX10_lays 3 = .ok (.iload_n 2, 1) := by decide +kernel
theorem dX10_lays_4 : decode cX10_lays 4 = .ok (.ifCond .lt 35, 3) := by decide +kernel
theorem dX10_lays_7 : decode cX10_lays 7 = .ok (.aload_n 0, 1) := by decide +kernel
theorem dX10_lays_8 : decode cX10_lays 8 = .ok (.getfield 53, 3) := by decide +kernel
theorem dX10_lays_11 : decode cX10_lays 11 = .ok (.aload_n 0, 1) := by decide +kernel
theorem dX10_lays_12 : decode cX10_lays 12 = .ok (.getfield 159, 3) := by decide +kernel
theorem dX10_lays_15 : decode cX10_lays 15 = .ok (.iload_n 1, 1) := by decide +kernel
theorem dX10_lays_16 : decode cX10_lays 16 = .ok (.iload_n 2, 1) := by decide +kernel
theorem dX10_lays_17 : decode cX10_lays 17 = .ok (.ishr, 1) := by decide +kernel
theorem dX10_lays_18 : decode cX10_lays 18 = .ok (.sipush 255, 3) := by decide +kernel
theorem dX10_lays_21 : decode cX10_lays 21 = .ok (.iand, 1) := by decide +kernel
theorem dX10_lays_22 : decode cX10_lays 22 = .ok (.iastore, 1) := by decide +kernel
theorem dX10_lays_23 : decode cX10_lays 23 = .ok (.aload_n 0, 1) := by decide +kernel
theorem dX10_lays_24 : decode cX10_lays 24 = .ok (.dup, 1) := by decide +kernel
theorem dX10_lays_25 : decode cX10_lays 25 = .ok (.getfield 159, 3) := by decide +kernel
theorem dX10_lays_28 : decode cX10_lays 28 = .ok (.iconst 1, 1) := by decide +kernel
theorem dX10_lays_29 : decode cX10_lays 29 = .ok (.iadd, 1) := by decide +kernel
theorem dX10_lays_30 : decode cX10_lays 30 = .ok (.putfield 159, 3) := by decide +kernel
theorem dX10_lays_33 : decode cX10_lays 33 = .ok (.iinc 2 (-8), 3) := by decide +kernel
theorem dX10_lays_36 : decode cX10_lays 36 = .ok (.goto (-33), 3) := by decide +kernel
theorem dX10_lays_39 : decode cX10_lays 39 = .ok (.return_, 1) := by decide +kernel
theorem dX10_skip_0 : decode cX10_skip 0 = .ok (.aload_n 0, 1) := by decide +kernel
theorem dX10_skip_1 : decode cX10_skip 1 = .ok (.getfield 168, 3) := by decide +kernel
theorem dX10_skip_4 : decode cX10_skip 4 = .ok (.aload_n 0, 1) := by decide +kernel
theorem dX10_skip_5 : decode cX10_skip 5 = .ok (.getfield 171, 3) := by decide +kernel
theorem dX10_skip_8 : decode cX10_skip 8 = .ok (.if_icmp .ge 44, 3) := by decide +kernel
theorem dX10_skip_11 : decode cX10_skip 11 = .ok (.aload_n 0, 1) := by decide +kernel
theorem dX10_skip_12 : decode cX10_skip 12 = .ok (.getfield 53, 3) := by decide +kernel
theorem dX10_skip_15 : decode cX10_skip 15 = .ok (.aload_n 0, 1) := by decide +kernel
theorem dX10_skip_16 : decode cX10_skip 16 = .ok (.getfield 168, 3) := by decide +kernel
theorem dX10_skip_19 : decode cX10_skip 19 = .ok (.iaload, 1) := by decide +kernel
theorem dX10_skip_20 : decode cX10_skip 20 = .ok (.bipush 32, 2) := by decide +kernel
theorem dX10_skip_22 : decode cX10_skip 22 = .ok (.if_icmp .eq 17, 3) := by decide +kernel
theorem dX10_skip_25 : decode cX10_skip 25 = .ok (.aload_n 0, 1) := by decide +kernel
theorem dX10_skip_26 : decode cX10_skip 26 = .ok (.getfield 53, 3) := by decide +kernel
theorem dX10_skip_29 : decode cX10_skip 29 = .ok (.aload_n 0, 1) := by decide +kernel
theorem dX10_skip_30 : decode cX10_skip 30 = .ok (.getfield 168, 3) := by decide +kernel
theorem dX10_skip_33 : decode cX10_skip 33 = .ok (.iaload, 1) := by decide +kernel
theorem dX10_skip_34 : decode cX10_skip 34 = .ok (.bipush 10, 2) := by decide +kernel
theorem dX10_skip_36 : decode cX10_skip 36 = .ok (.if_icmp .ne 16, 3) := by decide +kernel
theorem dX10_skip_39 : decode cX10_skip 39 = .ok (.aload_n 0, 1) := by decide +kernel
theorem dX10_skip_40 : decode cX10_skip 40 = .ok (.dup, 1) := by decide +kernel
theorem dX10_skip_41 : decode cX10_skip 41 = .ok (.getfield 168, 3) := by decide +kernel
theorem dX10_skip_44 : decode cX10_skip 44 = .ok (.iconst 1, 1) := by decide +kernel
theorem dX10_skip_45 : decode cX10_skip 45 = .ok (.iadd, 1) := by decide +kernel
theorem dX10_skip_46 : decode cX10_skip 46 = .ok (.putfield 168, 3) := by decide +kernel
theorem dX10_skip_49 : decode cX10_skip 49 = .ok (.goto (-49), 3) := by decide +kernel
theorem dX10_skip_52 : decode cX10_skip 52 = .ok (.return_, 1) := by decide +kernel
theorem dX10_steps_0 : decode cX10_steps 0 = .ok (.iconst (-1), 1) := by decide +kernel
theorem dX10_steps_1 : decode cX10_steps 1 = .ok (.istore_n 2, 1) := by decide +kernel
theorem dX10_steps_2 : decode cX10_steps 2 = .ok (.iconst (-1), 1) := by decide +kernel
theorem dX10_steps_3 : decode cX10_steps 3 = .ok (.istore_n 3, 1) := by decide +kernel
theorem dX10_steps_4 : decode cX10_steps 4 = .ok (.aload_n 0, 1) := by decide +kernel
theorem dX10_steps_5 : decode cX10_steps 5 = .ok (.invokevirtual 208, 3) := by decide +kernel
theorem dX10_steps_8 : decode cX10_steps 8 = .ok (.iload_n 1, 1) := by decide +kernel
theorem dX10_steps_9 : decode cX10_steps 9 = .ok (.ifCond .eq 15, 3) := by decide +kernel
theorem dX10_steps_12 : decode cX10_steps 12 = .ok (.aload_n 0, 1) := by decide +kernel
theorem dX10_steps_13 : decode cX10_steps 13 = .ok (.bipush 125, 2) := by decide +kernel
theorem dX10_steps_15 : decode cX10_steps 15 = .ok (.invokevirtual 228, 3) := by decide +kernel
theorem dX10_steps_18 : decode cX10_steps 18 = .ok (.ifCond .ne 61, 3) := by decide +kernel
theorem dX10_steps_21 : decode cX10_steps 21 = .ok (.goto 14, 3) := by decide +kernel
theorem dX10_steps_24 : decode cX10_steps 24 = .ok (.aload_n 0, 1) := by decide +kernel
theorem dX10_steps_25 : decode cX10_steps 25 = .ok (.getfield 168, 3) := by decide +kernel
theorem dX10_steps_28 : decode cX10_steps 28 = .ok (.aload_n 0, 1) := by decide +kernel
theorem dX10_steps_29 : decode cX10_steps 29 = .ok (.getfield 171, 3) := by decide +kernel
theorem dX10_steps_32 : decode cX10_steps 32 = .ok (.if_icmp .ge 47, 3) := by decide +kernel
theorem dX10_steps_35 : decode cX10_steps 35 = .ok (.aload_n 0, 1) := by decide +kernel
theorem dX10_steps_36 : decode cX10_steps 36 = .ok (.invokevirtual 246, 3) := by decide +kernel
theorem dX10_steps_39 : decode cX10_steps 39 = .ok (.istore 4, 2) := by decide +kernel
theorem dX10_steps_41 : decode cX10_steps 41 = .ok (.iload 4, 2) := by decide +kernel
theorem dX10_steps_43 : decode cX10_steps 43 = .ok (.iconst (-1), 1) := by decide +kernel
theorem dX10_steps_44 : decode cX10_steps 44 = .ok (.if_icmp .ne 6, 3) := by decide +kernel
theorem dX10_steps_47 : decode cX10_steps 47 = .ok (.bipush (-2), 2) := by decide +kernel
theorem dX10_steps_49 : decode cX10_steps 49 = .ok (.ireturn, 1) := by decide +kernel
theorem dX10_steps_50 : decode cX10_steps 50 = .ok (.iload_n 3, 1) := by decide +kernel
theorem dX10_steps_51 : decode cX10_steps 51 = .ok (.iconst (-1), 1) := by decide +kernel
theorem dX10_steps_52 : decode cX10_steps 52 = .ok (.if_icmp .ne 9, 3) := by decide +kernel
theorem dX10_steps_55 : decode cX10_steps 55 = .ok (.iload 4, 2) := by decide +kernel
theorem dX10_steps_57 : decode cX10_steps 57 = .ok (.istore_n 2, 1) := by decide +kernel
theorem dX10_steps_58 : decode cX10_steps 58 = .ok (.goto 11, 3) := by decide +kernel
theorem dX10_steps_61 : decode cX10_steps 61 = .ok (.aload_n 0, 1) := by decide +kernel
theorem dX10_steps_62 : decode cX10_steps 62 = .ok (.getfield 81, 3) := by decide +kernel
theorem dX10_steps_65 : decode cX10_steps 65 = .ok (.iload_n 3, 1) := by decide +kernel
theorem dX10_steps_66 : decode cX10_steps 66 = .ok (.iload 4, 2) := by decide +kernel
theorem dX10_steps_68 : decode cX10_steps 68 = .ok (.iastore, 1) := by decide +kernel
theorem dX10_steps_69 : decode cX10_steps 69 = .ok (.iload 4, 2) := by decide +kernel
theorem dX10_steps_71 : decode cX10_steps 71 = .ok (.istore_n 3, 1) := by decide +kernel
theorem dX10_steps_72 : decode cX10_steps 72 = .ok (.aload_n 0, 1) := by decide +kernel
theorem dX10_steps_73 : decode cX10_steps 73 = .ok (.invokevirtual 208, 3) := by decide +kernel
theorem dX10_steps_76 : decode cX10_steps 76 = .ok (.goto (-68), 3) := by decide +kernel
theorem dX10_steps_79 : decode cX10_steps 79 = .ok (.iload_n 1, 1) := by decide +kernel
theorem dX10_steps_80 : decode cX10_steps 80 = .ok (.ifCond .eq 13, 3) := by decide +kernel
theorem dX10_steps_83 : decode cX10_steps 83 = .ok (.aload_n 0, 1) := by decide +kernel
theorem dX10_steps_84 : decode cX10_steps 84 = .ok (.dup, 1) := by decide +kernel
theorem dX10_steps_85 : decode cX10_steps 85 = .ok (.getfield 168, 3) := by decide +kernel
theorem dX10_steps_88 : decode cX10_steps 88 = .ok (.iconst 1, 1) := by decide +kernel
theorem dX10_steps_89 : decode cX10_steps 89 = .ok (.iadd, 1) := by decide +kernel
theorem dX10_steps_90 : decode cX10_steps 90 = .ok (.putfield 168, 3) := by decide +kernel
theorem dX10_steps_93 : decode cX10_steps 93 = .ok (.iload_n 2, 1) := by decide +kernel
theorem dX10_steps_94 : decode cX10_steps 94 = .ok (.ireturn, 1) := by decide +kernel
theorem dX10_recipe_0 : decode cX10_recipe 0 = .ok (.aload_n 0, 1) := by decide +kernel
theorem dX10_recipe_1 : decode cX10_recipe 1 = .ok (.iconst 0, 1) := by decide +kernel
theorem dX10_recipe_2 : decode cX10_recipe 2 = .ok (.putfield 105, 3) := by decide +kernel
theorem dX10_recipe_5 : decode cX10_recipe 5 = .ok (.aload_n 0, 1) := by decide +kernel
theorem dX10_recipe_6 : decode cX10_recipe 6 = .ok (.iload_n 1, 1) := by decide +kernel
theorem dX10_recipe_7 : decode cX10_recipe 7 = .ok (.ifCond .lt 25, 3) := by decide +kernel
theorem dX10_recipe_10 : decode cX10_recipe 10 = .ok (.iload_n 1, 1) := by decide +kernel
theorem dX10_recipe_11 : decode cX10_recipe 11 = .ok (.bipush 8, 2) := by decide +kernel
theorem dX10_recipe_13 : decode cX10_recipe 13 = .ok (.if_icmp .ge 19, 3) := by decide +kernel
theorem dX10_recipe_16 : decode cX10_recipe 16 = .ok (.iload_n 2, 1) := by decide +kernel
theorem dX10_recipe_17 : decode cX10_recipe 17 = .ok (.ifCond .lt 15, 3) := by decide +kernel
theorem dX10_recipe_20 : decode cX10_recipe 20 = .ok (.iload_n 2, 1) := by decide +kernel
theorem dX10_recipe_21 : decode cX10_recipe 21 = .ok (.aload_n 0, 1) := by decide +kernel
theorem dX10_recipe_22 : decode cX10_recipe 22 = .ok (.getfield 159, 3) := by decide +kernel
theorem dX10_recipe_25 : decode cX10_recipe 25 = .ok (.if_icmp .gt 7, 3) := by decide +kernel
theorem dX10_recipe_28 : decode cX10_recipe 28 = .ok (.iconst 1, 1) := by decide +kernel
theorem dX10_recipe_29 : decode cX10_recipe 29 = .ok (.goto 4, 3) := by decide +kernel
theorem dX10_recipe_32 : decode cX10_recipe 32 = .ok (.iconst 0, 1) := by decide +kernel
theorem dX10_recipe_33 : decode cX10_recipe 33 = .ok (.iconst 1, 1) := by decide +kernel
theorem dX10_recipe_34 : decode cX10_recipe 34 = .ok (.invokevirtual 108, 3) := by decide +kernel
theorem dX10_recipe_37 : decode cX10_recipe 37 = .ok (.ifCond .ne 5, 3) := by decide +kernel
theorem dX10_recipe_40 : decode cX10_recipe 40 = .ok (.iconst 0, 1) := by decide +kernel
theorem dX10_recipe_41 : decode cX10_recipe 41 = .ok (.ireturn, 1) := by decide +kernel
theorem dX10_recipe_42 : decode cX10_recipe 42 = .ok (.aload_n 0, 1) := by decide +kernel
theorem dX10_recipe_43 : decode cX10_recipe 43 = .ok (.iload_n 2, 1) := by decide +kernel
theorem dX10_recipe_44 : decode cX10_recipe 44 = .ok (.putfield 171, 3) := by decide +kernel
theorem dX10_recipe_47 : decode cX10_recipe 47 = .ok (.aload_n 0, 1) := by decide +kernel
theorem dX10_recipe_48 : decode cX10_recipe 48 = .ok (.iconst 0, 1) := by decide +kernel
theorem dX10_recipe_49 : decode cX10_recipe 49 = .ok (.putfield 168, 3) := by decide +kernel
theorem dX10_recipe_52 : decode cX10_recipe 52 = .ok (.aload_n 0, 1) := by decide +kernel
theorem dX10_recipe_53 : decode cX10_recipe 53 = .ok (.iconst 0, 1) := by decide +kernel
theorem dX10_recipe_54 : decode cX10_recipe 54 = .ok (.putfield 159, 3) := by decide +kernel
theorem dX10_recipe_57 : decode cX10_recipe 57 = .ok (.aload_n 0, 1) := by decide +kernel
theorem dX10_recipe_58 : decode cX10_recipe 58 = .ok (.iconst 0, 1) := by decide +kernel
theorem dX10_recipe_59 : decode cX10_recipe 59 = .ok (.putfield 165, 3) := by decide +kernel
theorem dX10_recipe_62 : decode cX10_recipe 62 = .ok (.aload_n 0, 1) := by decide +kernel
theorem dX10_recipe_63 : decode cX10_recipe 63 = .ok (.iconst (-1), 1) := by decide +kernel
theorem dX10_recipe_64 : decode cX10_recipe 64 = .ok (.putfield 56, 3) := by decide +kernel
theorem dX10_recipe_67 : decode cX10_recipe 67 = .ok (.aload_n 0, 1) := by decide +kernel
theorem dX10_recipe_68 : decode cX10_recipe 68 = .ok (.iconst 0, 1) := by decide +kernel
theorem dX10_recipe_69 : decode cX10_recipe 69 = .ok (.putfield 249, 3) := by decide +kernel
theorem dX10_recipe_72 : decode cX10_recipe 72 = .ok (.aload_n 0, 1) := by decide +kernel
theorem dX10_recipe_73 : decode cX10_recipe 73 = .ok (.iconst 0, 1) := by decide +kernel
theorem dX10_recipe_74 : decode cX10_recipe 74 = .ok (.putfield 277, 3) := by decide +kernel
theorem dX10_recipe_77 : decode cX10_recipe 77 = .ok (.aload_n 0, 1) := by decide +kernel
theorem dX10_recipe_78 : decode cX10_recipe 78 = .ok (.iconst 0, 1) := by decide +kernel
theorem dX10_recipe_79 : decode cX10_recipe 79 = .ok (.invokevirtual 280, 3) := by decide +kernel
theorem dX10_recipe_82 : decode cX10_recipe 82 = .ok (.istore_n 3, 1) := by decide +kernel
theorem dX10_recipe_83 : decode cX10_recipe 83 = .ok (.aload_n 0, 1) := by decide +kernel
theorem dX10_recipe_84 : decode cX10_recipe 84 = .ok (.getfield 165, 3) := by decide +kernel
theorem dX10_recipe_87 : decode cX10_recipe 87 = .ok (.ifCond .le 8, 3) := by decide +kernel
theorem dX10_recipe_90 : decode cX10_recipe 90 = .ok (.aload_n 0, 1) := by decide +kernel
theorem dX10_recipe_91 : decode cX10_recipe 91 = .ok (.getfield 165, 3) := by decide +kernel
theorem dX10_recipe_94 : decode cX10_recipe 94 = .ok (.ireturn, 1) := by decide +kernel
theorem dX10_recipe_95 : decode cX10_recipe 95 = .ok (.sipush 300, 3) := by decide +kernel
theorem dX10_recipe_98 : decode cX10_recipe 98 = .ok (.iload_n 1, 1) := by decide +kernel
theorem dX10_recipe_99 : decode cX10_recipe 99 = .ok (.imul, 1) := by decide +kernel
theorem dX10_recipe_100 : decode cX10_recipe 100 = .ok (.sipush 2400, 3) := by decide +kernel
theorem dX10_recipe_103 : decode cX10_recipe 103 = .ok (.isub, 1) := by decide +kernel
theorem dX10_recipe_104 : decode cX10_recipe 104 = .ok (.istore 4, 2) := by decide +kernel
theorem dX10_recipe_106 : decode cX10_recipe 106 = .ok (.sipush 2400, 3) := by decide +kernel
theorem dX10_recipe_109 : decode cX10_recipe 109 = .ok (.istore 5, 2) := by decide +kernel
theorem dX10_recipe_111 : decode cX10_recipe 111 = .ok (.iload 5, 2) := by decide +kernel
theorem dX10_recipe_113 : decode cX10_recipe 113 = .ok (.sipush 2400, 3) := by decide +kernel
theorem dX10_recipe_116 : decode cX10_recipe 116 = .ok (.aload_n 0, 1) := by decide +kernel
theorem dX10_recipe_117 : decode cX10_recipe 117 = .ok (.getfield 249, 3) := by decide +kernel
theorem dX10_recipe_120 : decode cX10_recipe 120 = .ok (.iadd, 1) := by decide +kernel
theorem dX10_recipe_121 : decode cX10_recipe 121 = .ok (.if_icmp .ge 199, 3) := by decide +kernel
theorem dX10_recipe_124 : decode cX10_recipe 124 = .ok (.aload_n 0, 1) := by decide +kernel
theorem dX10_recipe_125 : decode cX10_recipe 125 = .ok (.getfield 60, 3) := by decide +kernel
theorem dX10_recipe_128 : decode cX10_recipe 128 = .ok (.iload 5, 2) := by decide +kernel
theorem dX10_recipe_130 : decode cX10_recipe 130 = .ok (.iload 4, 2) := by decide +kernel
theorem dX10_recipe_132 : decode cX10_recipe 132 = .ok (.iadd, 1) := by decide +kernel
theorem dX10_recipe_133 : decode cX10_recipe 133 = .ok (.aload_n 0, 1) := by decide +kernel
theorem dX10_recipe_134 : decode cX10_recipe 134 = .ok (.getfield 60, 3) := by decide +kernel
theorem dX10_recipe_137 : decode cX10_recipe 137 = .ok (.iload 5, 2) := by decide +kernel
theorem dX10_recipe_139 : decode cX10_recipe 139 = .ok (.iaload, 1) := by decide +kernel
theorem dX10_recipe_140 : decode cX10_recipe 140 = .ok (.iastore, 1) := by decide +kernel
theorem dX10_recipe_141 : decode cX10_recipe 141 = .ok (.aload_n 0, 1) := by decide +kernel
theorem dX10_recipe_142 : decode cX10_recipe 142 = .ok (.getfield 63, 3) := by decide +kernel
theorem dX10_recipe_145 : decode cX10_recipe 145 = .ok (.iload 5, 2) := by decide +kernel
theorem dX10_recipe_147 : decode cX10_recipe 147 = .ok (.iload 4, 2) := by decide +kernel
theorem dX10_recipe_149 : decode cX10_recipe 149 = .ok (.iadd, 1) := by decide +kernel
theorem dX10_recipe_150 : decode cX10_recipe 150 = .ok (.aload_n 0, 1) := by decide +kernel
theorem dX10_recipe_151 : decode cX10_recipe 151 = .ok (.getfield 63, 3) := by decide +kernel
theorem dX10_recipe_154 : decode cX10_recipe 154 = .ok (.iload 5, 2) := by decide +kernel
theorem dX10_recipe_156 : decode cX10_recipe 156 = .ok (.iaload, 1) := by decide +kernel
theorem dX10_recipe_157 : decode cX10_recipe 157 = .ok (.iastore, 1) := by decide +kernel
theorem dX10_recipe_158 : decode cX10_recipe 158 = .ok (.aload_n 0, 1) := by decide +kernel
theorem dX10_recipe_159 : decode cX10_recipe 159 = .ok (.getfield 66, 3) := by decide +kernel
theorem dX10_recipe_162 : decode cX10_recipe 162 = .ok (.iload 5, 2) := by decide +kernel
theorem dX10_recipe_164 : decode cX10_recipe 164 = .ok (.iload 4, 2) := by decide +kernel
theorem dX10_recipe_166 : decode cX10_recipe 166 = .ok (.iadd, 1) := by decide +kernel
theorem dX10_recipe_167 : decode cX10_recipe 167 = .ok (.aload_n 0, 1) := by decide +kernel
theorem dX10_recipe_168 : decode cX10_recipe 168 = .ok (.getfield 66, 3) := by decide +kernel
theorem dX10_recipe_171 : decode cX10_recipe 171 = .ok (.iload 5, 2) := by decide +kernel
theorem dX10_recipe_173 : decode cX10_recipe 173 = .ok (.iaload, 1) := by decide +kernel
theorem dX10_recipe_174 : decode cX10_recipe 174 = .ok (.iastore, 1) := by decide +kernel
theorem dX10_recipe_175 : decode cX10_recipe 175 = .ok (.aload_n 0, 1) := by decide +kernel
theorem dX10_recipe_176 : decode cX10_recipe 176 = .ok (.getfield 69, 3) := by decide +kernel
theorem dX10_recipe_179 : decode cX10_recipe 179 = .ok (.iload 5, 2) := by decide +kernel
theorem dX10_recipe_181 : decode cX10_recipe 181 = .ok (.iload 4, 2) := by decide +kernel
theorem dX10_recipe_183 : decode cX10_recipe 183 = .ok (.iadd, 1) := by decide +kernel
theorem dX10_recipe_184 : decode cX10_recipe 184 = .ok (.aload_n 0, 1) := by decide +kernel
theorem dX10_recipe_185 : decode cX10_recipe 185 = .ok (.getfield 69, 3) := by decide +kernel
theorem dX10_recipe_188 : decode cX10_recipe 188 = .ok (.iload 5, 2) := by decide +kernel
theorem dX10_recipe_190 : decode cX10_recipe 190 = .ok (.iaload, 1) := by decide +kernel
theorem dX10_recipe_191 : decode cX10_recipe 191 = .ok (.iastore, 1) := by decide +kernel
theorem dX10_recipe_192 : decode cX10_recipe 192 = .ok (.aload_n 0, 1) := by decide +kernel
theorem dX10_recipe_193 : decode cX10_recipe 193 = .ok (.getfield 72, 3) := by decide +kernel
theorem dX10_recipe_196 : decode cX10_recipe 196 = .ok (.iload 5, 2) := by decide +kernel
theorem dX10_recipe_198 : decode cX10_recipe 198 = .ok (.iload 4, 2) := by decide +kernel
theorem dX10_recipe_200 : decode cX10_recipe 200 = .ok (.iadd, 1) := by decide +kernel
theorem dX10_recipe_201 : decode cX10_recipe 201 = .ok (.aload_n 0, 1) := by decide +kernel
theorem dX10_recipe_202 : decode cX10_recipe 202 = .ok (.getfield 72, 3) := by decide +kernel
theorem dX10_recipe_205 : decode cX10_recipe 205 = .ok (.iload 5, 2) := by decide +kernel
theorem dX10_recipe_207 : decode cX10_recipe 207 = .ok (.iaload, 1) := by decide +kernel
theorem dX10_recipe_208 : decode cX10_recipe 208 = .ok (.iastore, 1) := by decide +kernel
theorem dX10_recipe_209 : decode cX10_recipe 209 = .ok (.aload_n 0, 1) := by decide +kernel
theorem dX10_recipe_210 : decode cX10_recipe 210 = .ok (.getfield 75, 3) := by decide +kernel
theorem dX10_recipe_213 : decode cX10_recipe 213 = .ok (.iload 5, 2) := by decide +kernel
theorem dX10_recipe_215 : decode cX10_recipe 215 = .ok (.iload 4, 2) := by decide +kernel
theorem dX10_recipe_217 : decode cX10_recipe 217 = .ok (.iadd, 1) := by decide +kernel
theorem dX10_recipe_218 : decode cX10_recipe 218 = .ok (.aload_n 0, 1) := by decide +kernel
theorem dX10_recipe_219 : decode cX10_recipe 219 = .ok (.getfield 75, 3) := by decide +kernel
theorem dX10_recipe_222 : decode cX10_recipe 222 = .ok (.iload 5, 2) := by decide +kernel
theorem dX10_recipe_224 : decode cX10_recipe 224 = .ok (.iaload, 1) := by decide +kernel
theorem dX10_recipe_225 : decode cX10_recipe 225 = .ok (.iconst (-1), 1) := by decide +kernel
theorem dX10_recipe_226 : decode cX10_recipe 226 = .ok (.if_icmp .ne 7, 3) := by decide +kernel
theorem dX10_recipe_229 : decode cX10_recipe 229 = .ok (.iconst (-1), 1) := by decide +kernel
theorem dX10_recipe_230 : decode cX10_recipe 230 = .ok (.goto 13, 3) := by decide +kernel
theorem dX10_recipe_233 : decode cX10_recipe 233 = .ok (.aload_n 0, 1) := by decide +kernel
theorem dX10_recipe_234 : decode cX10_recipe 234 = .ok (.getfield 75, 3) := by decide +kernel
theorem dX10_recipe_237 : decode cX10_recipe 237 = .ok (.iload 5, 2) := by decide +kernel
theorem dX10_recipe_239 : decode cX10_recipe 239 = .ok (.iaload, 1) := by decide +kernel
theorem dX10_recipe_240 : decode cX10_recipe 240 = .ok (.iload 4, 2) := by decide +kernel
theorem dX10_recipe_242 : decode cX10_recipe 242 = .ok (.iadd, 1) := by decide +kernel
theorem dX10_recipe_243 : decode cX10_recipe 243 = .ok (.iastore, 1) := by decide +kernel
theorem dX10_recipe_244 : decode cX10_recipe 244 = .ok (.aload_n 0, 1) := by decide +kernel
theorem dX10_recipe_245 : decode cX10_recipe 245 = .ok (.getfield 78, 3) := by decide +kernel
theorem dX10_recipe_248 : decode cX10_recipe 248 = .ok (.iload 5, 2) := by decide +kernel
theorem dX10_recipe_250 : decode cX10_recipe 250 = .ok (.iload 4, 2) := by decide +kernel
theorem dX10_recipe_252 : decode cX10_recipe 252 = .ok (.iadd, 1) := by decide +kernel
theorem dX10_recipe_253 : decode cX10_recipe 253 = .ok (.aload_n 0, 1) := by decide +kernel
theorem dX10_recipe_254 : decode cX10_recipe 254 = .ok (.getfield 78, 3) := by decide +kernel
theorem dX10_recipe_257 : decode cX10_recipe 257 = .ok (.iload 5, 2) := by decide +kernel
theorem dX10_recipe_259 : decode cX10_recipe 259 = .ok (.iaload, 1) := by decide +kernel
theorem dX10_recipe_260 : decode cX10_recipe 260 = .ok (.iconst (-1), 1) := by decide +kernel
theorem dX10_recipe_261 : decode cX10_recipe 261 = .ok (.if_icmp .ne 7, 3) := by decide +kernel
theorem dX10_recipe_264 : decode cX10_recipe 264 = .ok (.iconst (-1), 1) := by decide +kernel
theorem dX10_recipe_265 : decode cX10_recipe 265 = .ok (.goto 13, 3) := by decide +kernel
theorem dX10_recipe_268 : decode cX10_recipe 268 = .ok (.aload_n 0, 1) := by decide +kernel
theorem dX10_recipe_269 : decode cX10_recipe 269 = .ok (.getfield 78, 3) := by decide +kernel
theorem dX10_recipe_272 : decode cX10_recipe 272 = .ok (.iload 5, 2) := by decide +kernel
theorem dX10_recipe_274 : decode cX10_recipe 274 = .ok (.iaload, 1) := by decide +kernel
theorem dX10_recipe_275 : decode cX10_recipe 275 = .ok (.iload 4, 2) := by decide +kernel
theorem dX10_recipe_277 : decode cX10_recipe 277 = .ok (.iadd, 1) := by decide +kernel
theorem dX10_recipe_278 : decode cX10_recipe 278 = .ok (.iastore, 1) := by decide +kernel
theorem dX10_recipe_279 : decode cX10_recipe 279 = .ok (.aload_n 0, 1) := by decide +kernel
theorem dX10_recipe_280 : decode cX10_recipe 280 = .ok (.getfield 81, 3) := by decide +kernel
theorem dX10_recipe_283 : decode cX10_recipe 283 = .ok (.iload 5, 2) := by decide +kernel
theorem dX10_recipe_285 : decode cX10_recipe 285 = .ok (.iload 4, 2) := by decide +kernel
theorem dX10_recipe_287 : decode cX10_recipe 287 = .ok (.iadd, 1) := by decide +kernel
theorem dX10_recipe_288 : decode cX10_recipe 288 = .ok (.aload_n 0, 1) := by decide +kernel
theorem dX10_recipe_289 : decode cX10_recipe 289 = .ok (.getfield 81, 3) := by decide +kernel
theorem dX10_recipe_292 : decode cX10_recipe 292 = .ok (.iload 5, 2) := by decide +kernel
theorem dX10_recipe_294 : decode cX10_recipe 294 = .ok (.iaload, 1) := by decide +kernel
theorem dX10_recipe_295 : decode cX10_recipe 295 = .ok (.iconst (-1), 1) := by decide +kernel
theorem dX10_recipe_296 : decode cX10_recipe 296 = .ok (.if_icmp .ne 7, 3) := by decide +kernel
theorem dX10_recipe_299 : decode cX10_recipe 299 = .ok (.iconst (-1), 1) := by decide +kernel
theorem dX10_recipe_300 : decode cX10_recipe 300 = .ok (.goto 13, 3) := by decide +kernel
theorem dX10_recipe_303 : decode cX10_recipe 303 = .ok (.aload_n 0, 1) := by decide +kernel
theorem dX10_recipe_304 : decode cX10_recipe 304 = .ok (.getfield 81, 3) := by decide +kernel
theorem dX10_recipe_307 : decode cX10_recipe 307 = .ok (.iload 5, 2) := by decide +kernel
theorem dX10_recipe_309 : decode cX10_recipe 309 = .ok (.iaload, 1) := by decide +kernel
theorem dX10_recipe_310 : decode cX10_recipe 310 = .ok (.iload 4, 2) := by decide +kernel
theorem dX10_recipe_312 : decode cX10_recipe 312 = .ok (.iadd, 1) := by decide +kernel
theorem dX10_recipe_313 : decode cX10_recipe 313 = .ok (.iastore, 1) := by decide +kernel
theorem dX10_recipe_314 : decode cX10_recipe 314 = .ok (.iinc 5 1, 3) := by decide +kernel
theorem dX10_recipe_317 : decode cX10_recipe 317 = .ok (.goto (-206), 3) := by decide +kernel
theorem dX10_recipe_320 : decode cX10_recipe 320 = .ok (.aload_n 0, 1) := by decide +kernel
theorem dX10_recipe_321 : decode cX10_recipe 321 = .ok (.getfield 84, 3) := by decide +kernel
theorem dX10_recipe_324 : decode cX10_recipe 324 = .ok (.iload_n 1, 1) := by decide +kernel
theorem dX10_recipe_325 : decode cX10_recipe 325 = .ok (.iload_n 3, 1) := by decide +kernel
theorem dX10_recipe_326 : decode cX10_recipe 326 = .ok (.iconst (-1), 1) := by decide +kernel
theorem dX10_recipe_327 : decode cX10_recipe 327 = .ok (.if_icmp .ne 8, 3) := by decide +kernel
theorem dX10_recipe_330 : decode cX10_recipe 330 = .ok (.bipush (-2), 2) := by decide +kernel
theorem dX10_recipe_332 : decode cX10_recipe 332 = .ok (.goto 7, 3) := by decide +kernel
theorem dX10_recipe_335 : decode cX10_recipe 335 = .ok (.iload_n 3, 1) := by decide +kernel
theorem dX10_recipe_336 : decode cX10_recipe 336 = .ok (.iload 4, 2) := by decide +kernel
theorem dX10_recipe_338 : decode cX10_recipe 338 = .ok (.iadd, 1) := by decide +kernel
theorem dX10_recipe_339 : decode cX10_recipe 339 = .ok (.iastore, 1) := by decide +kernel
theorem dX10_recipe_340 : decode cX10_recipe 340 = .ok (.aload_n 0, 1) := by decide +kernel
theorem dX10_recipe_341 : decode cX10_recipe 341 = .ok (.getfield 87, 3) := by decide +kernel
theorem dX10_recipe_344 : decode cX10_recipe 344 = .ok (.iload_n 1, 1) := by decide +kernel
theorem dX10_recipe_345 : decode cX10_recipe 345 = .ok (.aload_n 0, 1) := by decide +kernel
theorem dX10_recipe_346 : decode cX10_recipe 346 = .ok (.getfield 249, 3) := by decide +kernel
theorem dX10_recipe_349 : decode cX10_recipe 349 = .ok (.iastore, 1) := by decide +kernel
theorem dX10_recipe_350 : decode cX10_recipe 350 = .ok (.aload_n 0, 1) := by decide +kernel
theorem dX10_recipe_351 : decode cX10_recipe 351 = .ok (.aload_n 0, 1) := by decide +kernel
theorem dX10_recipe_352 : decode cX10_recipe 352 = .ok (.getfield 249, 3) := by decide +kernel
theorem dX10_recipe_355 : decode cX10_recipe 355 = .ok (.putfield 284, 3) := by decide +kernel
theorem dX10_recipe_358 : decode cX10_recipe 358 = .ok (.iconst 0, 1) := by decide +kernel
theorem dX10_recipe_359 : decode cX10_recipe 359 = .ok (.ireturn, 1) := by decide +kernel
theorem dX10_fault_0 : decode cX10_fault 0 = .ok (.aload_n 0, 1) := by decide +kernel
theorem dX10_fault_1 : decode cX10_fault 1 = .ok (.iconst 0, 1) := by decide +kernel
theorem dX10_fault_2 : decode cX10_fault 2 = .ok (.putfield 105, 3) := by decide +kernel
theorem dX10_fault_5 : decode cX10_fault 5 = .ok (.aload_n 0, 1) := by decide +kernel
theorem dX10_fault_6 : decode cX10_fault 6 = .ok (.iload_n 1, 1) := by decide +kernel
theorem dX10_fault_7 : decode cX10_fault 7 = .ok (.ifCond .eq 8, 3) := by decide +kernel
theorem dX10_fault_10 : decode cX10_fault 10 = .ok (.iload_n 1, 1) := by decide +kernel
theorem dX10_fault_11 : decode cX10_fault 11 = .ok (.iconst 1, 1) := by decide +kernel
theorem dX10_fault_12 : decode cX10_fault 12 = .ok (.if_icmp .ne 7, 3) := by decide +kernel
theorem dX10_fault_15 : decode cX10_fault 15 = .ok (.iconst 1, 1) := by decide +kernel
theorem dX10_fault_16 : decode cX10_fault 16 = .ok (.goto 4, 3) := by decide +kernel
theorem dX10_fault_19 : decode cX10_fault 19 = .ok (.iconst 0, 1) := by decide +kernel
theorem dX10_fault_20 : decode cX10_fault 20 = .ok (.iconst 1, 1) := by decide +kernel
theorem dX10_fault_21 : decode cX10_fault 21 = .ok (.invokevirtual 108, 3) := by decide +kernel
theorem dX10_fault_24 : decode cX10_fault 24 = .ok (.ifCond .ne 5, 3) := by decide +kernel
theorem dX10_fault_27 : decode cX10_fault 27 = .ok (.iconst 0, 1) := by decide +kernel
theorem dX10_fault_28 : decode cX10_fault 28 = .ok (.ireturn, 1) := by decide +kernel
theorem dX10_fault_29 : decode cX10_fault 29 = .ok (.iload_n 1, 1) := by decide +kernel
theorem dX10_fault_30 : decode cX10_fault 30 = .ok (.ifCond .ne 10, 3) := by decide +kernel
theorem dX10_fault_33 : decode cX10_fault 33 = .ok (.aload_n 0, 1) := by decide +kernel
theorem dX10_fault_34 : decode cX10_fault 34 = .ok (.getfield 165, 3) := by decide +kernel
theorem dX10_fault_37 : decode cX10_fault 37 = .ok (.goto 7, 3) := by decide +kernel
theorem dX10_fault_40 : decode cX10_fault 40 = .ok (.aload_n 0, 1) := by decide +kernel
theorem dX10_fault_41 : decode cX10_fault 41 = .ok (.getfield 56, 3) := by decide +kernel
theorem dX10_fault_44 : decode cX10_fault 44 = .ok (.ireturn, 1) := by decide +kernel
theorem dX10_run_0 : decode cX10_run 0 = .ok (.aload_n 0, 1) := by decide +kernel
theorem dX10_run_1 : decode cX10_run 1 = .ok (.iload_n 2, 1) := by decide +kernel
theorem dX10_run_2 : decode cX10_run 2 = .ok (.invokevirtual 141, 3) := by decide +kernel
theorem dX10_run_5 : decode cX10_run 5 = .ok (.ifCond .ne 5, 3) := by decide +kernel
theorem dX10_run_8 : decode cX10_run 8 = .ok (.iconst 0, 1) := by decide +kernel
theorem dX10_run_9 : decode cX10_run 9 = .ok (.ireturn, 1) := by decide +kernel
theorem dX10_run_10 : decode cX10_run 10 = .ok (.iload_n 1, 1) := by decide +kernel
theorem dX10_run_11 : decode cX10_run 11 = .ok (.ifCond .lt 39, 3) := by decide +kernel
theorem dX10_run_14 : decode cX10_run 14 = .ok (.iload_n 1, 1) := by decide +kernel
theorem dX10_run_15 : decode cX10_run 15 = .ok (.bipush 8, 2) := by decide +kernel
theorem dX10_run_17 : decode cX10_run 17 = .ok (.if_icmp .ge 33, 3) := by decide +kernel
theorem dX10_run_20 : decode cX10_run 20 = .ok (.aload_n 0, 1) := by decide +kernel
theorem dX10_run_21 : decode cX10_run 21 = .ok (.getfield 84, 3) := by decide +kernel
theorem dX10_run_24 : decode cX10_run 24 = .ok (.iload_n 1, 1) := by decide +kernel
theorem dX10_run_25 : decode cX10_run 25 = .ok (.iaload, 1) := by decide +kernel
theorem dX10_run_26 : decode cX10_run 26 = .ok (.iconst (-1), 1) := by decide +kernel
theorem dX10_run_27 : decode cX10_run 27 = .ok (.if_icmp .eq 23, 3) := by decide +kernel
theorem dX10_run_30 : decode cX10_run 30 = .ok (.aload_n 0, 1) := by decide +kernel
theorem dX10_run_31 : decode cX10_run 31 = .ok (.iload_n 2, 1) := by decide +kernel
theorem dX10_run_32 : decode cX10_run 32 = .ok (.invokevirtual 144, 3) := by decide +kernel
theorem dX10_run_35 : decode cX10_run 35 = .ok (.ifCond .ne 15, 3) := by decide +kernel
theorem dX10_run_38 : decode cX10_run 38 = .ok (.iload_n 3, 1) := by decide +kernel
theorem dX10_run_39 : decode cX10_run 39 = .ok (.iconst 1, 1) := by decide +kernel
theorem dX10_run_40 : decode cX10_run 40 = .ok (.if_icmp .lt 10, 3) := by decide +kernel
theorem dX10_run_43 : decode cX10_run 43 = .ok (.iload_n 3, 1) := by decide +kernel
theorem dX10_run_44 : decode cX10_run 44 = .ok (.sipush 5000, 3) := by decide +kernel
theorem dX10_run_47 : decode cX10_run 47 = .ok (.if_icmp .le 5, 3) := by decide +kernel
theorem dX10_run_50 : decode cX10_run 50 = .ok (.iconst (-1), 1) := by decide +kernel
theorem dX10_run_51 : decode cX10_run 51 = .ok (.ireturn, 1) := by decide +kernel
theorem dX10_run_52 : decode cX10_run 52 = .ok (.aload_n 0, 1) := by decide +kernel
theorem dX10_run_53 : decode cX10_run 53 = .ok (.iload_n 3, 1) := by decide +kernel
theorem dX10_run_54 : decode cX10_run 54 = .ok (.putfield 290, 3) := by decide +kernel
theorem dX10_run_57 : decode cX10_run 57 = .ok (.aload_n 0, 1) := by decide +kernel
theorem dX10_run_58 : decode cX10_run 58 = .ok (.iconst 0, 1) := by decide +kernel
theorem dX10_run_59 : decode cX10_run 59 = .ok (.putfield 287, 3) := by decide +kernel
theorem dX10_run_62 : decode cX10_run 62 = .ok (.aload_n 0, 1) := by decide +kernel
theorem dX10_run_63 : decode cX10_run 63 = .ok (.iconst 0, 1) := by decide +kernel
theorem dX10_run_64 : decode cX10_run 64 = .ok (.putfield 313, 3) := by decide +kernel
theorem dX10_run_67 : decode cX10_run 67 = .ok (.aload_n 0, 1) := by decide +kernel
theorem dX10_run_68 : decode cX10_run 68 = .ok (.iconst 0, 1) := by decide +kernel
theorem dX10_run_69 : decode cX10_run 69 = .ok (.putfield 310, 3) := by decide +kernel
theorem dX10_run_72 : decode cX10_run 72 = .ok (.aload_n 0, 1) := by decide +kernel
theorem dX10_run_73 : decode cX10_run 73 = .ok (.iconst 0, 1) := by decide +kernel
theorem dX10_run_74 : decode cX10_run 74 = .ok (.putfield 316, 3) := by decide +kernel
theorem dX10_run_77 : decode cX10_run 77 = .ok (.aload_n 0, 1) := by decide +kernel
theorem dX10_run_78 : decode cX10_run 78 = .ok (.getfield 84, 3) := by decide +kernel
theorem dX10_run_81 : decode cX10_run 81 = .ok (.iload_n 1, 1) := by decide +kernel
theorem dX10_run_82 : decode cX10_run 82 = .ok (.iaload, 1) := by decide +kernel
theorem dX10_run_83 : decode cX10_run 83 = .ok (.bipush (-2), 2) := by decide +kernel
theorem dX10_run_85 : decode cX10_run 85 = .ok (.if_icmp .ne 7, 3) := by decide +kernel
theorem dX10_run_88 : decode cX10_run 88 = .ok (.iconst 0, 1) := by decide +kernel
theorem dX10_run_89 : decode cX10_run 89 = .ok (.goto 14, 3) := by decide +kernel
theorem dX10_run_92 : decode cX10_run 92 = .ok (.aload_n 0, 1) := by decide +kernel
theorem dX10_run_93 : decode cX10_run 93 = .ok (.aload_n 0, 1) := by decide +kernel
theorem dX10_run_94 : decode cX10_run 94 = .ok (.getfield 84, 3) := by decide +kernel
theorem dX10_run_97 : decode cX10_run 97 = .ok (.iload_n 1, 1) := by decide +kernel
theorem dX10_run_98 : decode cX10_run 98 = .ok (.iaload, 1) := by decide +kernel
theorem dX10_run_99 : decode cX10_run 99 = .ok (.iload_n 2, 1) := by decide +kernel
theorem dX10_run_100 : decode cX10_run 100 = .ok (.invokevirtual 319, 3) := by decide +kernel
theorem dX10_run_103 : decode cX10_run 103 = .ok (.istore 4, 2) := by decide +kernel
theorem dX10_run_105 : decode cX10_run 105 = .ok (.aload_n 0, 1) := by decide +kernel
theorem dX10_run_106 : decode cX10_run 106 = .ok (.iload 4, 2) := by decide +kernel
theorem dX10_run_108 : decode cX10_run 108 = .ok (.sipush 1000, 3) := by decide +kernel
theorem dX10_run_111 : decode cX10_run 111 = .ok (.if_icmp .ne 7, 3) := by decide +kernel
theorem dX10_run_114 : decode cX10_run 114 = .ok (.iconst 0, 1) := by decide +kernel
theorem dX10_run_115 : decode cX10_run 115 = .ok (.goto 5, 3) := by decide +kernel
theorem dX10_run_118 : decode cX10_run 118 = .ok (.iload 4, 2) := by decide +kernel
theorem dX10_run_120 : decode cX10_run 120 = .ok (.putfield 328, 3) := by decide +kernel
