theorem dX10_leads_158 : decode cX10_leads 158 = .ok (.iconst 2, 1) := by decide +kernel
theorem dX10_leads_159 : decode cX10_leads 159 = .ok (.imul, 1) := by decide +kernel
theorem dX10_leads_160 : decode cX10_leads 160 = .ok (.istore 7, 2) := by decide +kernel
theorem dX10_leads_162 : decode cX10_leads 162 = .ok (.goto (-103), 3) := by decide +kernel
theorem dX10_leads_165 : decode cX10_leads 165 = .ok (.iinc 6 1, 3) := by decide +kernel
theorem dX10_leads_168 : decode cX10_leads 168 = .ok (.goto (-119), 3) := by decide +kernel
theorem dX10_leads_171 : decode cX10_leads 171 = .ok (.iconst 0, 1) := by decide +kernel
theorem dX10_leads_172 : decode cX10_leads 172 = .ok (.ireturn, 1) := by decide +kernel
theorem dX10_plan_0 : decode cX10_plan 0 = .ok (.aload_n 0, 1) := by decide +kernel
theorem dX10_plan_1 : decode cX10_plan 1 = .ok (.iload_n 1, 1) := by decide +kernel
theorem dX10_plan_2 : decode cX10_plan 2 = .ok (.invokevirtual 141, 3) := by decide +kernel
theorem dX10_plan_5 : decode cX10_plan 5 = .ok (.ifCond .eq 36, 3) := by decide +kernel
theorem dX10_plan_8 : decode cX10_plan 8 = .ok (.aload_n 0, 1) := by decide +kernel
theorem dX10_plan_9 : decode cX10_plan 9 = .ok (.iload 4, 2) := by decide +kernel
theorem dX10_plan_11 : decode cX10_plan 11 = .ok (.ifCond .lt 22, 3) := by decide +kernel
theorem dX10_plan_14 : decode cX10_plan 14 = .ok (.iload 4, 2) := by decide +kernel
theorem dX10_plan_16 : decode cX10_plan 16 = .ok (.iconst 3, 1) := by decide +kernel
theorem dX10_plan_17 : decode cX10_plan 17 = .ok (.if_icmp .gt 16, 3) := by decide +kernel
theorem dX10_plan_20 : decode cX10_plan 20 = .ok (.iload_n 2, 1) := by decide +kernel
theorem dX10_plan_21 : decode cX10_plan 21 = .ok (.ifCond .lt 12, 3) := by decide +kernel
theorem dX10_plan_24 : decode cX10_plan 24 = .ok (.iload_n 2, 1) := by decide +kernel
theorem dX10_plan_25 : decode cX10_plan 25 = .ok (.iload_n 3, 1) := by decide +kernel
theorem dX10_plan_26 : decode cX10_plan 26 = .ok (.if_icmp .gt 7, 3) := by decide +kernel
theorem dX10_plan_29 : decode cX10_plan 29 = .ok (.iconst 1, 1) := by decide +kernel
theorem dX10_plan_30 : decode cX10_plan 30 = .ok (.goto 4, 3) := by decide +kernel
theorem dX10_plan_33 : decode cX10_plan 33 = .ok (.iconst 0, 1) := by decide +kernel
theorem dX10_plan_34 : decode cX10_plan 34 = .ok (.iconst 2, 1) := by decide +kernel
theorem dX10_plan_35 : decode cX10_plan 35 = .ok (.invokevirtual 108, 3) := by decide +kernel
theorem dX10_plan_38 : decode cX10_plan 38 = .ok (.ifCond .ne 5, 3) := by decide +kernel
theorem dX10_plan_41 : decode cX10_plan 41 = .ok (.iconst 0, 1) := by decide +kernel
theorem dX10_plan_42 : decode cX10_plan 42 = .ok (.ireturn, 1) := by decide +kernel
theorem dX10_plan_43 : decode cX10_plan 43 = .ok (.aload_n 0, 1) := by decide +kernel
theorem dX10_plan_44 : decode cX10_plan 44 = .ok (.iconst 0, 1) := by decide +kernel
theorem dX10_plan_45 : decode cX10_plan 45 = .ok (.putfield 346, 3) := by decide +kernel
theorem dX10_plan_48 : decode cX10_plan 48 = .ok (.aload_n 0, 1) := by decide +kernel
theorem dX10_plan_49 : decode cX10_plan 49 = .ok (.iload_n 1, 1) := by decide +kernel
theorem dX10_plan_50 : decode cX10_plan 50 = .ok (.invokevirtual 144, 3) := by decide +kernel
theorem dX10_plan_53 : decode cX10_plan 53 = .ok (.ifCond .eq 5, 3) := by decide +kernel
theorem dX10_plan_56 : decode cX10_plan 56 = .ok (.iconst (-1), 1) := by decide +kernel
theorem dX10_plan_57 : decode cX10_plan 57 = .ok (.ireturn, 1) := by decide +kernel
theorem dX10_plan_58 : decode cX10_plan 58 = .ok (.iconst 0, 1) := by decide +kernel
theorem dX10_plan_59 : decode cX10_plan 59 = .ok (.istore 5, 2) := by decide +kernel
theorem dX10_plan_61 : decode cX10_plan 61 = .ok (.iload 5, 2) := by decide +kernel
theorem dX10_plan_63 : decode cX10_plan 63 = .ok (.iload 4, 2) := by decide +kernel
theorem dX10_plan_65 : decode cX10_plan 65 = .ok (.if_icmp .gt 34, 3) := by decide +kernel
theorem dX10_plan_68 : decode cX10_plan 68 = .ok (.aload_n 0, 1) := by decide +kernel
theorem dX10_plan_69 : decode cX10_plan 69 = .ok (.iload_n 1, 1) := by decide +kernel
theorem dX10_plan_70 : decode cX10_plan 70 = .ok (.iconst 0, 1) := by decide +kernel
theorem dX10_plan_71 : decode cX10_plan 71 = .ok (.iload 5, 2) := by decide +kernel
theorem dX10_plan_73 : decode cX10_plan 73 = .ok (.iload_n 2, 1) := by decide +kernel
theorem dX10_plan_74 : decode cX10_plan 74 = .ok (.iload_n 3, 1) := by decide +kernel
theorem dX10_plan_75 : decode cX10_plan 75 = .ok (.invokevirtual 339, 3) := by decide +kernel
theorem dX10_plan_78 : decode cX10_plan 78 = .ok (.ifCond .ne 6, 3) := by decide +kernel
theorem dX10_plan_81 : decode cX10_plan 81 = .ok (.goto 12, 3) := by decide +kernel
theorem dX10_plan_84 : decode cX10_plan 84 = .ok (.aload_n 0, 1) := by decide +kernel
theorem dX10_plan_85 : decode cX10_plan 85 = .ok (.iload 5, 2) := by decide +kernel
theorem dX10_plan_87 : decode cX10_plan 87 = .ok (.putfield 346, 3) := by decide +kernel
theorem dX10_plan_90 : decode cX10_plan 90 = .ok (.iload 5, 2) := by decide +kernel
theorem dX10_plan_92 : decode cX10_plan 92 = .ok (.ireturn, 1) := by decide +kernel
theorem dX10_plan_93 : decode cX10_plan 93 = .ok (.iinc 5 1, 3) := by decide +kernel
theorem dX10_plan_96 : decode cX10_plan 96 = .ok (.goto (-35), 3) := by decide +kernel
theorem dX10_plan_99 : decode cX10_plan 99 = .ok (.iconst (-1), 1) := by decide +kernel
theorem dX10_plan_100 : decode cX10_plan 100 = .ok (.ireturn, 1) := by decide +kernel
theorem dX10_planned_0 : decode cX10_planned 0 = .ok (.aload_n 0, 1) := by decide +kernel
theorem dX10_planned_1 : decode cX10_planned 1 = .ok (.iconst 0, 1) := by decide +kernel
theorem dX10_planned_2 : decode cX10_planned 2 = .ok (.putfield 105, 3) := by decide +kernel
theorem dX10_planned_5 : decode cX10_planned 5 = .ok (.aload_n 0, 1) := by decide +kernel
theorem dX10_planned_6 : decode cX10_planned 6 = .ok (.iload_n 1, 1) := by decide +kernel
theorem dX10_planned_7 : decode cX10_planned 7 = .ok (.ifCond .lt 24, 3) := by decide +kernel
theorem dX10_planned_10 : decode cX10_planned 10 = .ok (.iload_n 1, 1) := by decide +kernel
theorem dX10_planned_11 : decode cX10_planned 11 = .ok (.aload_n 0, 1) := by decide +kernel
theorem dX10_planned_12 : decode cX10_planned 12 = .ok (.getfield 346, 3) := by decide +kernel
theorem dX10_planned_15 : decode cX10_planned 15 = .ok (.if_icmp .ge 16, 3) := by decide +kernel
theorem dX10_planned_18 : decode cX10_planned 18 = .ok (.iload_n 2, 1) := by decide +kernel
theorem dX10_planned_19 : decode cX10_planned 19 = .ok (.ifCond .lt 12, 3) := by decide +kernel
theorem dX10_planned_22 : decode cX10_planned 22 = .ok (.iload_n 2, 1) := by decide +kernel
theorem dX10_planned_23 : decode cX10_planned 23 = .ok (.iconst 2, 1) := by decide +kernel
theorem dX10_planned_24 : decode cX10_planned 24 = .ok (.if_icmp .gt 7, 3) := by decide +kernel
theorem dX10_planned_27 : decode cX10_planned 27 = .ok (.iconst 1, 1) := by decide +kernel
theorem dX10_planned_28 : decode cX10_planned 28 = .ok (.goto 4, 3) := by decide +kernel
theorem dX10_planned_31 : decode cX10_planned 31 = .ok (.iconst 0, 1) := by decide +kernel
theorem dX10_planned_32 : decode cX10_planned 32 = .ok (.iconst 1, 1) := by decide +kernel
theorem dX10_planned_33 : decode cX10_planned 33 = .ok (.invokevirtual 108, 3) := by decide +kernel
theorem dX10_planned_36 : decode cX10_planned 36 = .ok (.ifCond .ne 5, 3) := by decide +kernel
theorem dX10_planned_39 : decode cX10_planned 39 = .ok (.iconst 0, 1) := by decide +kernel
theorem dX10_planned_40 : decode cX10_planned 40 = .ok (.ireturn, 1) := by decide +kernel
theorem dX10_planned_41 : decode cX10_planned 41 = .ok (.iload_n 2, 1) := by decide +kernel
theorem dX10_planned_42 : decode cX10_planned 42 = .ok (.ifCond .ne 12, 3) := by decide +kernel
theorem dX10_planned_45 : decode cX10_planned 45 = .ok (.aload_n 0, 1) := by decide +kernel
theorem dX10_planned_46 : decode cX10_planned 46 = .ok (.getfield 93, 3) := by decide +kernel
theorem dX10_planned_49 : decode cX10_planned 49 = .ok (.iload_n 1, 1) := by decide +kernel
theorem dX10_planned_50 : decode cX10_planned 50 = .ok (.iaload, 1) := by decide +kernel
theorem dX10_planned_51 : decode cX10_planned 51 = .ok (.goto 23, 3) := by decide +kernel
theorem dX10_planned_54 : decode cX10_planned 54 = .ok (.iload_n 2, 1) := by decide +kernel
theorem dX10_planned_55 : decode cX10_planned 55 = .ok (.iconst 1, 1) := by decide +kernel
theorem dX10_planned_56 : decode cX10_planned 56 = .ok (.if_icmp .ne 12, 3) := by decide +kernel
theorem dX10_planned_59 : decode cX10_planned 59 = .ok (.aload_n 0, 1) := by decide +kernel
theorem dX10_planned_60 : decode cX10_planned 60 = .ok (.getfield 96, 3) := by decide +kernel
theorem dX10_planned_63 : decode cX10_planned 63 = .ok (.iload_n 1, 1) := by decide +kernel
theorem dX10_planned_64 : decode cX10_planned 64 = .ok (.iaload, 1) := by decide +kernel
theorem dX10_planned_65 : decode cX10_planned 65 = .ok (.goto 9, 3) := by decide +kernel
theorem dX10_planned_68 : decode cX10_planned 68 = .ok (.aload_n 0, 1) := by decide +kernel
theorem dX10_planned_69 : decode cX10_planned 69 = .ok (.getfield 99, 3) := by decide +kernel
theorem dX10_planned_72 : decode cX10_planned 72 = .ok (.iload_n 1, 1) := by decide +kernel
theorem dX10_planned_73 : decode cX10_planned 73 = .ok (.iaload, 1) := by decide +kernel
theorem dX10_planned_74 : decode cX10_planned 74 = .ok (.ireturn, 1) := by decide +kernel
theorem dX10_vat_0 : decode cX10_vat 0 = .ok (.aload_n 0, 1) := by decide +kernel
theorem dX10_vat_1 : decode cX10_vat 1 = .ok (.iload_n 1, 1) := by decide +kernel
theorem dX10_vat_2 : decode cX10_vat 2 = .ok (.invokevirtual 115, 3) := by decide +kernel
theorem dX10_vat_5 : decode cX10_vat 5 = .ok (.ifCond .eq 25, 3) := by decide +kernel
theorem dX10_vat_8 : decode cX10_vat 8 = .ok (.aload_n 0, 1) := by decide +kernel
theorem dX10_vat_9 : decode cX10_vat 9 = .ok (.iload_n 2, 1) := by decide +kernel
theorem dX10_vat_10 : decode cX10_vat 10 = .ok (.ifCond .lt 12, 3) := by decide +kernel
theorem dX10_vat_13 : decode cX10_vat 13 = .ok (.iload_n 2, 1) := by decide +kernel
theorem dX10_vat_14 : decode cX10_vat 14 = .ok (.iconst 5, 1) := by decide +kernel
theorem dX10_vat_15 : decode cX10_vat 15 = .ok (.if_icmp .gt 7, 3) := by decide +kernel
theorem dX10_vat_18 : decode cX10_vat 18 = .ok (.iconst 1, 1) := by decide +kernel
theorem dX10_vat_19 : decode cX10_vat 19 = .ok (.goto 4, 3) := by decide +kernel
theorem dX10_vat_22 : decode cX10_vat 22 = .ok (.iconst 0, 1) := by decide +kernel
theorem dX10_vat_23 : decode cX10_vat 23 = .ok (.iconst 1, 1) := by decide +kernel
theorem dX10_vat_24 : decode cX10_vat 24 = .ok (.invokevirtual 108, 3) := by decide +kernel
theorem dX10_vat_27 : decode cX10_vat 27 = .ok (.ifCond .ne 5, 3) := by decide +kernel
theorem dX10_vat_30 : decode cX10_vat 30 = .ok (.iconst 0, 1) := by decide +kernel
theorem dX10_vat_31 : decode cX10_vat 31 = .ok (.ireturn, 1) := by decide +kernel
theorem dX10_vat_32 : decode cX10_vat 32 = .ok (.iload_n 2, 1) := by decide +kernel
theorem dX10_vat_33 : decode cX10_vat 33 = .ok (.tableswitch 70 0 4 #[35, 42, 49, 56, 63], 35) := by decide +kernel
theorem dX10_vat_68 : decode cX10_vat 68 = .ok (.aload_n 0, 1) := by decide +kernel
theorem dX10_vat_69 : decode cX10_vat 69 = .ok (.getfield 7, 3) := by decide +kernel
theorem dX10_vat_72 : decode cX10_vat 72 = .ok (.iload_n 1, 1) := by decide +kernel
theorem dX10_vat_73 : decode cX10_vat 73 = .ok (.iaload, 1) := by decide +kernel
theorem dX10_vat_74 : decode cX10_vat 74 = .ok (.ireturn, 1) := by decide +kernel
theorem dX10_vat_75 : decode cX10_vat 75 = .ok (.aload_n 0, 1) := by decide +kernel
theorem dX10_vat_76 : decode cX10_vat 76 = .ok (.getfield 13, 3) := by decide +kernel
theorem dX10_vat_79 : decode cX10_vat 79 = .ok (.iload_n 1, 1) := by decide +kernel
theorem dX10_vat_80 : decode cX10_vat 80 = .ok (.iaload, 1) := by decide +kernel
theorem dX10_vat_81 : decode cX10_vat 81 = .ok (.ireturn, 1) := by decide +kernel
theorem dX10_vat_82 : decode cX10_vat 82 = .ok (.aload_n 0, 1) := by decide +kernel
theorem dX10_vat_83 : decode cX10_vat 83 = .ok (.getfield 16, 3) := by decide +kernel
theorem dX10_vat_86 : decode cX10_vat 86 = .ok (.iload_n 1, 1) := by decide +kernel
theorem dX10_vat_87 : decode cX10_vat 87 = .ok (.iaload, 1) := by decide +kernel
theorem dX10_vat_88 : decode cX10_vat 88 = .ok (.ireturn, 1) := by decide +kernel
theorem dX10_vat_89 : decode cX10_vat 89 = .ok (.aload_n 0, 1) := by decide +kernel
theorem dX10_vat_90 : decode cX10_vat 90 = .ok (.getfield 19, 3) := by decide +kernel
theorem dX10_vat_93 : decode cX10_vat 93 = .ok (.iload_n 1, 1) := by decide +kernel
theorem dX10_vat_94 : decode cX10_vat 94 = .ok (.iaload, 1) := by decide +kernel
theorem dX10_vat_95 : decode cX10_vat 95 = .ok (.ireturn, 1) := by decide +kernel
theorem dX10_vat_96 : decode cX10_vat 96 = .ok (.aload_n 0, 1) := by decide +kernel
theorem dX10_vat_97 : decode cX10_vat 97 = .ok (.getfield 22, 3) := by decide +kernel
theorem dX10_vat_100 : decode cX10_vat 100 = .ok (.iload_n 1, 1) := by decide +kernel
theorem dX10_vat_101 : decode cX10_vat 101 = .ok (.iaload, 1) := by decide +kernel
theorem dX10_vat_102 : decode cX10_vat 102 = .ok (.ireturn, 1) := by decide +kernel
theorem dX10_vat_103 : decode cX10_vat 103 = .ok (.aload_n 0, 1) := by decide +kernel
theorem dX10_vat_104 : decode cX10_vat 104 = .ok (.getfield 25, 3) := by decide +kernel
theorem dX10_vat_107 : decode cX10_vat 107 = .ok (.iload_n 1, 1) := by decide +kernel
theorem dX10_vat_108 : decode cX10_vat 108 = .ok (.iaload, 1) := by decide +kernel
theorem dX10_vat_109 : decode cX10_vat 109 = .ok (.ireturn, 1) := by decide +kernel
theorem dX10_about_0 : decode cX10_about 0 = .ok (.aload_n 0, 1) := by decide +kernel
theorem dX10_about_1 : decode cX10_about 1 = .ok (.iload_n 1, 1) := by decide +kernel
theorem dX10_about_2 : decode cX10_about 2 = .ok (.invokevirtual 141, 3) := by decide +kernel
theorem dX10_about_5 : decode cX10_about 5 = .ok (.ifCond .eq 26, 3) := by decide +kernel
theorem dX10_about_8 : decode cX10_about 8 = .ok (.aload_n 0, 1) := by decide +kernel
theorem dX10_about_9 : decode cX10_about 9 = .ok (.iload_n 2, 1) := by decide +kernel
theorem dX10_about_10 : decode cX10_about 10 = .ok (.ifCond .lt 13, 3) := by decide +kernel
theorem dX10_about_13 : decode cX10_about 13 = .ok (.iload_n 2, 1) := by decide +kernel
theorem dX10_about_14 : decode cX10_about 14 = .ok (.bipush 7, 2) := by decide +kernel
theorem dX10_about_16 : decode cX10_about 16 = .ok (.if_icmp .gt 7, 3) := by decide +kernel
theorem dX10_about_19 : decode cX10_about 19 = .ok (.iconst 1, 1) := by decide +kernel
theorem dX10_about_20 : decode cX10_about 20 = .ok (.goto 4, 3) := by decide +kernel
theorem dX10_about_23 : decode cX10_about 23 = .ok (.iconst 0, 1) := by decide +kernel
theorem dX10_about_24 : decode cX10_about 24 = .ok (.iconst 1, 1) := by decide +kernel
theorem dX10_about_25 : decode cX10_about 25 = .ok (.invokevirtual 108, 3) := by decide +kernel
theorem dX10_about_28 : decode cX10_about 28 = .ok (.ifCond .ne 5, 3) := by decide +kernel
theorem dX10_about_31 : decode cX10_about 31 = .ok (.iconst 0, 1) := by decide +kernel
theorem dX10_about_32 : decode cX10_about 32 = .ok (.ireturn, 1) := by decide +kernel
theorem dX10_about_33 : decode cX10_about 33 = .ok (.iload_n 2, 1) := by decide +kernel
theorem dX10_about_34 : decode cX10_about 34 = .ok (.tableswitch 97 0 6 #[42, 49, 56, 63, 69, 83, 90], 42) := by decide +kernel
theorem dX10_about_76 : decode cX10_about 76 = .ok (.aload_n 0, 1) := by decide +kernel
theorem dX10_about_77 : decode cX10_about 77 = .ok (.getfield 35, 3) := by decide +kernel
theorem dX10_about_80 : decode cX10_about 80 = .ok (.iload_n 1, 1) := by decide +kernel
theorem dX10_about_81 : decode cX10_about 81 = .ok (.iaload, 1) := by decide +kernel
theorem dX10_about_82 : decode cX10_about 82 = .ok (.ireturn, 1) := by decide +kernel
theorem dX10_about_83 : decode cX10_about 83 = .ok (.aload_n 0, 1) := by decide +kernel
theorem dX10_about_84 : decode cX10_about 84 = .ok (.getfield 38, 3) := by decide +kernel
theorem dX10_about_87 : decode cX10_about 87 = .ok (.iload_n 1, 1) := by decide +kernel
theorem dX10_about_88 : decode cX10_about 88 = .ok (.iaload, 1) := by decide +kernel
theorem dX10_about_89 : decode cX10_about 89 = .ok (.ireturn, 1) := by decide +kernel
theorem dX10_about_90 : decode cX10_about 90 = .ok (.aload_n 0, 1) := by decide +kernel
theorem dX10_about_91 : decode cX10_about 91 = .ok (.getfield 41, 3) := by decide +kernel
theorem dX10_about_94 : decode cX10_about 94 = .ok (.iload_n 1, 1) := by decide +kernel
theorem dX10_about_95 : decode cX10_about 95 = .ok (.iaload, 1) := by decide +kernel
theorem dX10_about_96 : decode cX10_about 96 = .ok (.ireturn, 1) := by decide +kernel
theorem dX10_about_97 : decode cX10_about 97 = .ok (.aload_n 0, 1) := by decide +kernel
theorem dX10_about_98 : decode cX10_about 98 = .ok (.iload_n 1, 1) := by decide +kernel
theorem dX10_about_99 : decode cX10_about 99 = .ok (.invokevirtual 322, 3) := by decide +kernel
theorem dX10_about_102 : decode cX10_about 102 = .ok (.ireturn, 1) := by decide +kernel
theorem dX10_about_103 : decode cX10_about 103 = .ok (.aload_n 0, 1) := by decide +kernel
theorem dX10_about_104 : decode cX10_about 104 = .ok (.iload_n 1, 1) := by decide +kernel
theorem dX10_about_105 : decode cX10_about 105 = .ok (.invokevirtual 144, 3) := by decide +kernel
theorem dX10_about_108 : decode cX10_about 108 = .ok (.ifCond .eq 7, 3) := by decide +kernel
theorem dX10_about_111 : decode cX10_about 111 = .ok (.iconst 1, 1) := by decide +kernel
theorem dX10_about_112 : decode cX10_about 112 = .ok (.goto 4, 3) := by decide +kernel
theorem dX10_about_115 : decode cX10_about 115 = .ok (.iconst 0, 1) := by decide +kernel
theorem dX10_about_116 : decode cX10_about 116 = .ok (.ireturn, 1) := by decide +kernel
theorem dX10_about_117 : decode cX10_about 117 = .ok (.aload_n 0, 1) := by decide +kernel
theorem dX10_about_118 : decode cX10_about 118 = .ok (.getfield 44, 3) := by decide +kernel
theorem dX10_about_121 : decode cX10_about 121 = .ok (.iload_n 1, 1) := by decide +kernel
theorem dX10_about_122 : decode cX10_about 122 = .ok (.iaload, 1) := by decide +kernel
theorem dX10_about_123 : decode cX10_about 123 = .ok (.ireturn, 1) := by decide +kernel
theorem dX10_about_124 : decode cX10_about 124 = .ok (.aload_n 0, 1) := by decide +kernel
theorem dX10_about_125 : decode cX10_about 125 = .ok (.getfield 47, 3) := by decide +kernel
theorem dX10_about_128 : decode cX10_about 128 = .ok (.iload_n 1, 1) := by decide +kernel
theorem dX10_about_129 : decode cX10_about 129 = .ok (.iaload, 1) := by decide +kernel
theorem dX10_about_130 : decode cX10_about 130 = .ok (.ireturn, 1) := by decide +kernel
theorem dX10_about_131 : decode cX10_about 131 = .ok (.aload_n 0, 1) := by decide +kernel
theorem dX10_about_132 : decode cX10_about 132 = .ok (.getfield 50, 3) := by decide +kernel
theorem dX10_about_135 : decode cX10_about 135 = .ok (.iload_n 1, 1) := by decide +kernel
theorem dX10_about_136 : decode cX10_about 136 = .ok (.iaload, 1) := by decide +kernel
theorem dX10_about_137 : decode cX10_about 137 = .ok (.ireturn, 1) := by decide +kernel
theorem dX10_count_0 : decode cX10_count 0 = .ok (.aload_n 0, 1) := by decide +kernel
theorem dX10_count_1 : decode cX10_count 1 = .ok (.iconst 0, 1) := by decide +kernel
theorem dX10_count_2 : decode cX10_count 2 = .ok (.putfield 105, 3) := by decide +kernel
theorem dX10_count_5 : decode cX10_count 5 = .ok (.aload_n 0, 1) := by decide +kernel
theorem dX10_count_6 : decode cX10_count 6 = .ok (.iload_n 1, 1) := by decide +kernel
theorem dX10_count_7 : decode cX10_count 7 = .ok (.ifCond .lt 12, 3) := by decide +kernel
theorem dX10_count_10 : decode cX10_count 10 = .ok (.iload_n 1, 1) := by decide +kernel
theorem dX10_count_11 : decode cX10_count 11 = .ok (.iconst 5, 1) := by decide +kernel
theorem dX10_count_12 : decode cX10_count 12 = .ok (.if_icmp .gt 7, 3) := by decide +kernel
theorem dX10_count_15 : decode cX10_count 15 = .ok (.iconst 1, 1) := by decide +kernel
theorem dX10_count_16 : decode cX10_count 16 = .ok (.goto 4, 3) := by decide +kernel
theorem dX10_count_19 : decode cX10_count 19 = .ok (.iconst 0, 1) := by decide +kernel
theorem dX10_count_20 : decode cX10_count 20 = .ok (.iconst 1, 1) := by decide +kernel
theorem dX10_count_21 : decode cX10_count 21 = .ok (.invokevirtual 108, 3) := by decide +kernel
theorem dX10_count_24 : decode cX10_count 24 = .ok (.ifCond .ne 5, 3) := by decide +kernel
theorem dX10_count_27 : decode cX10_count 27 = .ok (.iconst 0, 1) := by decide +kernel
theorem dX10_count_28 : decode cX10_count 28 = .ok (.ireturn, 1) := by decide +kernel
theorem dX10_count_29 : decode cX10_count 29 = .ok (.iload_n 1, 1) := by decide +kernel
theorem dX10_count_30 : decode cX10_count 30 = .ok (.tableswitch 59 0 4 #[34, 39, 44, 49, 54], 34) := by decide +kernel
theorem dX10_count_64 : decode cX10_count 64 = .ok (.aload_n 0, 1) := by decide +kernel
theorem dX10_count_65 : decode cX10_count 65 = .ok (.getfield 131, 3) := by decide +kernel
theorem dX10_count_68 : decode cX10_count 68 = .ok (.ireturn, 1) := by decide +kernel
theorem dX10_count_69 : decode cX10_count 69 = .ok (.aload_n 0, 1) := by decide +kernel
theorem dX10_count_70 : decode cX10_count 70 = .ok (.getfield 149, 3) := by decide +kernel
theorem dX10_count_73 : decode cX10_count 73 = .ok (.ireturn, 1) := by decide +kernel
theorem dX10_count_74 : decode cX10_count 74 = .ok (.aload_n 0, 1) := by decide +kernel
theorem dX10_count_75 : decode cX10_count 75 = .ok (.getfield 112, 3) := by decide +kernel
theorem dX10_count_78 : decode cX10_count 78 = .ok (.ireturn, 1) := by decide +kernel
theorem dX10_count_79 : decode cX10_count 79 = .ok (.aload_n 0, 1) := by decide +kernel
theorem dX10_count_80 : decode cX10_count 80 = .ok (.getfield 120, 3) := by decide +kernel
theorem dX10_count_83 : decode cX10_count 83 = .ok (.ireturn, 1) := by decide +kernel
theorem dX10_count_84 : decode cX10_count 84 = .ok (.aload_n 0, 1) := by decide +kernel
theorem dX10_count_85 : decode cX10_count 85 = .ok (.getfield 159, 3) := by decide +kernel
theorem dX10_count_88 : decode cX10_count 88 = .ok (.ireturn, 1) := by decide +kernel
theorem dX10_count_89 : decode cX10_count 89 = .ok (.aload_n 0, 1) := by decide +kernel
theorem dX10_count_90 : decode cX10_count 90 = .ok (.getfield 284, 3) := by decide +kernel
theorem dX10_count_93 : decode cX10_count 93 = .ok (.ireturn, 1) := by decide +kernel
theorem dX10_hasSpan_0 : decode cX10_hasSpan 0 = .ok (.aload_n 0, 1) := by decide +kernel
theorem dX10_hasSpan_1 : decode cX10_hasSpan 1 = .ok (.iload_n 1, 1) := by decide +kernel
theorem dX10_hasSpan_2 : decode cX10_hasSpan 2 = .ok (.invokevirtual 144, 3) := by decide +kernel
theorem dX10_hasSpan_5 : decode cX10_hasSpan 5 = .ok (.ifCond .eq 17, 3) := by decide +kernel
theorem dX10_hasSpan_8 : decode cX10_hasSpan 8 = .ok (.aload_n 0, 1) := by decide +kernel
theorem dX10_hasSpan_9 : decode cX10_hasSpan 9 = .ok (.getfield 44, 3) := by decide +kernel
theorem dX10_hasSpan_12 : decode cX10_hasSpan 12 = .ok (.iload_n 1, 1) := by decide +kernel
theorem dX10_hasSpan_13 : decode cX10_hasSpan 13 = .ok (.iaload, 1) := by decide +kernel
theorem dX10_hasSpan_14 : decode cX10_hasSpan 14 = .ok (.iload_n 2, 1) := by decide +kernel
theorem dX10_hasSpan_15 : decode cX10_hasSpan 15 = .ok (.if_icmp .gt 7, 3) := by decide +kernel
theorem dX10_hasSpan_18 : decode cX10_hasSpan 18 = .ok (.iconst 1, 1) := by decide +kernel
theorem dX10_hasSpan_19 : decode cX10_hasSpan 19 = .ok (.goto 4, 3) := by decide +kernel
theorem dX10_hasSpan_22 : decode cX10_hasSpan 22 = .ok (.iconst 0, 1) := by decide +kernel
theorem dX10_hasSpan_23 : decode cX10_hasSpan 23 = .ok (.ireturn, 1) := by decide +kernel
theorem dX10_fadedTo_0 : decode cX10_fadedTo 0 = .ok (.iload_n 2, 1) := by decide +kernel
theorem dX10_fadedTo_1 : decode cX10_fadedTo 1 = .ok (.aload_n 0, 1) := by decide +kernel
theorem dX10_fadedTo_2 : decode cX10_fadedTo 2 = .ok (.getfield 44, 3) := by decide +kernel
theorem dX10_fadedTo_5 : decode cX10_fadedTo 5 = .ok (.iload_n 1, 1) := by decide +kernel
theorem dX10_fadedTo_6 : decode cX10_fadedTo 6 = .ok (.iaload, 1) := by decide +kernel
theorem dX10_fadedTo_7 : decode cX10_fadedTo 7 = .ok (.isub, 1) := by decide +kernel
theorem dX10_fadedTo_8 : decode cX10_fadedTo 8 = .ok (.istore 4, 2) := by decide +kernel
theorem dX10_fadedTo_10 : decode cX10_fadedTo 10 = .ok (.aload_n 0, 1) := by decide +kernel
theorem dX10_fadedTo_11 : decode cX10_fadedTo 11 = .ok (.iload_n 1, 1) := by decide +kernel
theorem dX10_fadedTo_12 : decode cX10_fadedTo 12 = .ok (.invokevirtual 322, 3) := by decide +kernel
theorem dX10_fadedTo_15 : decode cX10_fadedTo 15 = .ok (.iload_n 3, 1) := by decide +kernel
theorem dX10_fadedTo_16 : decode cX10_fadedTo 16 = .ok (.ifCond .ne 13, 3) := by decide +kernel
theorem dX10_fadedTo_19 : decode cX10_fadedTo 19 = .ok (.iconst 3, 1) := by decide +kernel
theorem dX10_fadedTo_20 : decode cX10_fadedTo 20 = .ok (.iload 4, 2) := by decide +kernel
theorem dX10_fadedTo_22 : decode cX10_fadedTo 22 = .ok (.imul, 1) := by decide +kernel
theorem dX10_fadedTo_23 : decode cX10_fadedTo 23 = .ok (.bipush 100, 2) := by decide +kernel
theorem dX10_fadedTo_25 : decode cX10_fadedTo 25 = .ok (.idiv, 1) := by decide +kernel
theorem dX10_fadedTo_26 : decode cX10_fadedTo 26 = .ok (.goto 8, 3) := by decide +kernel
theorem dX10_fadedTo_29 : decode cX10_fadedTo 29 = .ok (.iload 4, 2) := by decide +kernel
theorem dX10_fadedTo_31 : decode cX10_fadedTo 31 = .ok (.bipush 100, 2) := by decide +kernel
theorem dX10_fadedTo_33 : decode cX10_fadedTo 33 = .ok (.idiv, 1) := by decide +kernel
theorem dX10_fadedTo_34 : decode cX10_fadedTo 34 = .ok (.isub, 1) := by decide +kernel
theorem dX10_fadedTo_35 : decode cX10_fadedTo 35 = .ok (.istore 5, 2) := by decide +kernel
theorem dX10_fadedTo_37 : decode cX10_fadedTo 37 = .ok (.iload 5, 2) := by decide +kernel
theorem dX10_fadedTo_39 : decode cX10_fadedTo 39 = .ok (.ifCond .le 8, 3) := by decide +kernel
theorem dX10_fadedTo_42 : decode cX10_fadedTo 42 = .ok (.iload 5, 2) := by decide +kernel
theorem dX10_fadedTo_44 : decode cX10_fadedTo 44 = .ok (.goto 4, 3) := by decide +kernel
theorem dX10_fadedTo_47 : decode cX10_fadedTo 47 = .ok (.iconst 0, 1) := by decide +kernel
theorem dX10_fadedTo_48 : decode cX10_fadedTo 48 = .ok (.ireturn, 1) := by decide +kernel
theorem dX10_faded_0 : decode cX10_faded 0 = .ok (.aload_n 0, 1) := by decide +kernel
theorem dX10_faded_1 : decode cX10_faded 1 = .ok (.iload_n 1, 1) := by decide +kernel
theorem dX10_faded_2 : decode cX10_faded 2 = .ok (.invokevirtual 141, 3) := by decide +kernel
theorem dX10_faded_5 : decode cX10_faded 5 = .ok (.ifCond .eq 35, 3) := by decide +kernel
theorem dX10_faded_8 : decode cX10_faded 8 = .ok (.aload_n 0, 1) := by decide +kernel
theorem dX10_faded_9 : decode cX10_faded 9 = .ok (.iload_n 3, 1) := by decide +kernel
theorem dX10_faded_10 : decode cX10_faded 10 = .ok (.ifCond .eq 8, 3) := by decide +kernel
theorem dX10_faded_13 : decode cX10_faded 13 = .ok (.iload_n 3, 1) := by decide +kernel
theorem dX10_faded_14 : decode cX10_faded 14 = .ok (.iconst 1, 1) := by decide +kernel
theorem dX10_faded_15 : decode cX10_faded 15 = .ok (.if_icmp .ne 17, 3) := by decide +kernel
theorem dX10_faded_18 : decode cX10_faded 18 = .ok (.iload_n 2, 1) := by decide +kernel
theorem dX10_faded_19 : decode cX10_faded 19 = .ok (.ifCond .lt 13, 3) := by decide +kernel
theorem dX10_faded_22 : decode cX10_faded 22 = .ok (.iload_n 2, 1) := by decide +kernel
theorem dX10_faded_23 : decode cX10_faded 23 = .ok (.ldc 119, 2) := by decide +kernel
theorem dX10_faded_25 : decode cX10_faded 25 = .ok (.if_icmp .gt 7, 3) := by decide +kernel
theorem dX10_faded_28 : decode cX10_faded 28 = .ok (.iconst 1, 1) := by decide +kernel
theorem dX10_faded_29 : decode cX10_faded 29 = .ok (.goto 4, 3) := by decide +kernel
theorem dX10_faded_32 : decode cX10_faded 32 = .ok (.iconst 0, 1) := by decide +kernel
theorem dX10_faded_33 : decode cX10_faded 33 = .ok (.iconst 2, 1) := by decide +kernel
theorem dX10_faded_34 : decode cX10_faded 34 = .ok (.invokevirtual 108, 3) := by decide +kernel
theorem dX10_faded_37 : decode cX10_faded 37 = .ok (.ifCond .ne 5, 3) := by decide +kernel
theorem dX10_faded_40 : decode cX10_faded 40 = .ok (.iconst 0, 1) := by decide +kernel
theorem dX10_faded_41 : decode cX10_faded 41 = .ok (.ireturn, 1) := by decide +kernel
theorem dX10_faded_42 : decode cX10_faded 42 = .ok (.aload_n 0, 1) := by decide +kernel
theorem dX10_faded_43 : decode cX10_faded 43 = .ok (.iload_n 1, 1) := by decide +kernel
theorem dX10_faded_44 : decode cX10_faded 44 = .ok (.iload_n 2, 1) := by decide +kernel
theorem dX10_faded_45 : decode cX10_faded 45 = .ok (.invokevirtual 349, 3) := by decide +kernel
theorem dX10_faded_48 : decode cX10_faded 48 = .ok (.ifCond .eq 13, 3) := by decide +kernel
theorem dX10_faded_51 : decode cX10_faded 51 = .ok (.aload_n 0, 1) := by decide +kernel
theorem dX10_faded_52 : decode cX10_faded 52 = .ok (.iload_n 1, 1) := by decide +kernel
theorem dX10_faded_53 : decode cX10_faded 53 = .ok (.iload_n 2, 1) := by decide +kernel
theorem dX10_faded_54 : decode cX10_faded 54 = .ok (.iload_n 3, 1) := by decide +kernel
theorem dX10_faded_55 : decode cX10_faded 55 = .ok (.invokevirtual 352, 3) := by decide +kernel
theorem dX10_faded_58 : decode cX10_faded 58 = .ok (.goto 4, 3) := by decide +kernel
theorem dX10_faded_61 : decode cX10_faded 61 = .ok (.iconst (-1), 1) := by decide +kernel
theorem dX10_faded_62 : decode cX10_faded 62 = .ok (.ireturn, 1) := by decide +kernel
theorem dX10_matching_0 : decode cX10_matching 0 = .ok (.aload_n 0, 1) := by decide +kernel
theorem dX10_matching_1 : decode cX10_matching 1 = .ok (.iload_n 1, 1) := by decide +kernel
theorem dX10_matching_2 : decode cX10_matching 2 = .ok (.invokevirtual 141, 3) := by decide +kernel
theorem dX10_matching_5 : decode cX10_matching 5 = .ok (.ifCond .eq 26, 3) := by decide +kernel
theorem dX10_matching_8 : decode cX10_matching 8 = .ok (.aload_n 0, 1) := by decide +kernel
theorem dX10_matching_9 : decode cX10_matching 9 = .ok (.iload_n 2, 1) := by decide +kernel
theorem dX10_matching_10 : decode cX10_matching 10 = .ok (.ifCond .lt 13, 3) := by decide +kernel
theorem dX10_matching_13 : decode cX10_matching 13 = .ok (.iload_n 2, 1) := by decide +kernel
theorem dX10_matching_14 : decode cX10_matching 14 = .ok (.ldc 119, 2) := by decide +kernel
theorem dX10_matching_16 : decode cX10_matching 16 = .ok (.if_icmp .gt 7, 3) := by decide +kernel
theorem dX10_matching_19 : decode cX10_matching 19 = .ok (.iconst 1, 1) := by decide +kernel
theorem dX10_matching_20 : decode cX10_matching 20 = .ok (.goto 4, 3) := by decide +kernel
theorem dX10_matching_23 : decode cX10_matching 23 = .ok (.iconst 0, 1) := by decide +kernel
theorem dX10_matching_24 : decode cX10_matching 24 = .ok (.iconst 2, 1) := by decide +kernel
theorem dX10_matching_25 : decode cX10_matching 25 = .ok (.invokevirtual 108, 3) := by decide +kernel
theorem dX10_matching_28 : decode cX10_matching 28 = .ok (.ifCond .ne 5, 3) := by decide +kernel
theorem dX10_matching_31 : decode cX10_matching 31 = .ok (.iconst 0, 1) := by decide +kernel
theorem dX10_matching_32 : decode cX10_matching 32 = .ok (.ireturn, 1) := by decide +kernel
theorem dX10_matching_33 : decode cX10_matching 33 = .ok (.iconst 0, 1) := by decide +kernel
theorem dX10_matching_34 : decode cX10_matching 34 = .ok (.istore_n 3, 1) := by decide +kernel
theorem dX10_matching_35 : decode cX10_matching 35 = .ok (.iconst 0, 1) := by decide +kernel
theorem dX10_matching_36 : decode cX10_matching 36 = .ok (.istore 4, 2) := by decide +kernel
theorem dX10_matching_38 : decode cX10_matching 38 = .ok (.iload 4, 2) := by decide +kernel
theorem dX10_matching_40 : decode cX10_matching 40 = .ok (.aload_n 0, 1) := by decide +kernel
theorem dX10_matching_41 : decode cX10_matching 41 = .ok (.getfield 112, 3) := by decide +kernel
theorem dX10_matching_44 : decode cX10_matching 44 = .ok (.if_icmp .ge 80, 3) := by decide +kernel
theorem dX10_matching_47 : decode cX10_matching 47 = .ok (.aload_n 0, 1) := by decide +kernel
theorem dX10_matching_48 : decode cX10_matching 48 = .ok (.iload_n 1, 1) := by decide +kernel
theorem dX10_matching_49 : decode cX10_matching 49 = .ok (.iload_n 2, 1) := by decide +kernel
theorem dX10_matching_50 : decode cX10_matching 50 = .ok (.invokevirtual 349, 3) := by decide +kernel
theorem dX10_matching_53 : decode cX10_matching 53 = .ok (.ifCond .eq 71, 3) := by decide +kernel
theorem dX10_matching_56 : decode cX10_matching 56 = .ok (.iload 4, 2) := by decide +kernel
theorem dX10_matching_58 : decode cX10_matching 58 = .ok (.iload_n 1, 1) := by decide +kernel
theorem dX10_matching_59 : decode cX10_matching 59 = .ok (.if_icmp .eq 59, 3) := by decide +kernel
theorem dX10_matching_62 : decode cX10_matching 62 = .ok (.aload_n 0, 1) := by decide +kernel
theorem dX10_matching_63 : decode cX10_matching 63 = .ok (.iload 4, 2) := by decide +kernel
theorem dX10_matching_65 : decode cX10_matching 65 = .ok (.iload_n 2, 1) := by decide +kernel
theorem dX10_matching_66 : decode cX10_matching 66 = .ok (.invokevirtual 349, 3) := by decide +kernel
theorem dX10_matching_69 : decode cX10_matching 69 = .ok (.ifCond .ne 6, 3) := by decide +kernel
theorem dX10_matching_72 : decode cX10_matching 72 = .ok (.goto 46, 3) := by decide +kernel
theorem dX10_matching_75 : decode cX10_matching 75 = .ok (.aload_n 0, 1) := by decide +kernel
theorem dX10_matching_76 : decode cX10_matching 76 = .ok (.iload 4, 2) := by decide +kernel
theorem dX10_matching_78 : decode cX10_matching 78 = .ok (.iload_n 2, 1) := by decide +kernel
theorem dX10_matching_79 : decode cX10_matching 79 = .ok (.iconst 0, 1) := by decide +kernel
theorem dX10_matching_80 : decode cX10_matching 80 = .ok (.invokevirtual 352, 3) := by decide +kernel
theorem dX10_matching_83 : decode cX10_matching 83 = .ok (.aload_n 0, 1) := by decide +kernel
theorem dX10_matching_84 : decode cX10_matching 84 = .ok (.iload_n 1, 1) := by decide +kernel
theorem dX10_matching_85 : decode cX10_matching 85 = .ok (.iload_n 2, 1) := by decide +kernel
theorem dX10_matching_86 : decode cX10_matching 86 = .ok (.iconst 1, 1) := by decide +kernel
theorem dX10_matching_87 : decode cX10_matching 87 = .ok (.invokevirtual 352, 3) := by decide +kernel
theorem dX10_matching_90 : decode cX10_matching 90 = .ok (.if_icmp .gt 28, 3) := by decide +kernel
theorem dX10_matching_93 : decode cX10_matching 93 = .ok (.aload_n 0, 1) := by decide +kernel
theorem dX10_matching_94 : decode cX10_matching 94 = .ok (.iload_n 1, 1) := by decide +kernel
theorem dX10_matching_95 : decode cX10_matching 95 = .ok (.iload_n 2, 1) := by decide +kernel
theorem dX10_matching_96 : decode cX10_matching 96 = .ok (.iconst 0, 1) := by decide +kernel
theorem dX10_matching_97 : decode cX10_matching 97 = .ok (.invokevirtual 352, 3) := by decide +kernel
theorem dX10_matching_100 : decode cX10_matching 100 = .ok (.aload_n 0, 1) := by decide +kernel
theorem dX10_matching_101 : decode cX10_matching 101 = .ok (.iload 4, 2) := by decide +kernel
theorem dX10_matching_103 : decode cX10_matching 103 = .ok (.iload_n 2, 1) := by decide +kernel
theorem dX10_matching_104 : decode cX10_matching 104 = .ok (.iconst 1, 1) := by decide +kernel
theorem dX10_matching_105 : decode cX10_matching 105 = .ok (.invokevirtual 352, 3) := by decide +kernel
theorem dX10_matching_108 : decode cX10_matching 108 = .ok (.if_icmp .gt 10, 3) := by decide +kernel
theorem dX10_matching_111 : decode cX10_matching 111 = .ok (.iload_n 3, 1) := by decide +kernel
theorem dX10_matching_112 : decode cX10_matching 112 = .ok (.iconst 1, 1) := by decide +kernel
theorem dX10_matching_113 : decode cX10_matching 113 = .ok (.iload 4, 2) := by decide +kernel
theorem dX10_matching_115 : decode cX10_matching 115 = .ok (.ishl, 1) := by decide +kernel
theorem dX10_matching_116 : decode cX10_matching 116 = .ok (.ior, 1) := by decide +kernel
theorem dX10_matching_117 : decode cX10_matching 117 = .ok (.istore_n 3, 1) := by decide +kernel
theorem dX10_matching_118 : decode cX10_matching 118 = .ok (.iinc 4 1, 3) := by decide +kernel
theorem dX10_matching_121 : decode cX10_matching 121 = .ok (.goto (-83), 3) := by decide +kernel
theorem dX10_matching_124 : decode cX10_matching 124 = .ok (.iload_n 3, 1) := by decide +kernel
theorem dX10_matching_125 : decode cX10_matching 125 = .ok (.ireturn, 1) := by decide +kernel
theorem dJ0_length_8abf5_0 : decode cJ0_length_8abf5 0 = .ok (.aload_n 0, 1) := by decide +kernel
theorem dJ0_length_8abf5_1 : decode cJ0_length_8abf5 1 = .ok (.getfield 9, 3) := by decide +kernel
theorem dJ0_length_8abf5_4 : decode cJ0_length_8abf5 4 = .ok (.arraylength, 1) := by decide +kernel
theorem dJ0_length_8abf5_5 : decode cJ0_length_8abf5 5 = .ok (.aload_n 0, 1) := by decide +kernel
theorem dJ0_length_8abf5_6 : decode cJ0_length_8abf5 6 = .ok (.invokevirtual 335, 3) := by decide +kernel
theorem dJ0_length_8abf5_9 : decode cJ0_length_8abf5 9 = .ok (.ishr, 1) := by decide +kernel
theorem dJ0_length_8abf5_10 : decode cJ0_length_8abf5 10 = .ok (.ireturn, 1) := by decide +kernel
theorem dJ0_charAt_5068e_0 : decode cJ0_charAt_5068e 0 = .ok (.aload_n 0, 1) := by decide +kernel
theorem dJ0_charAt_5068e_1 : decode cJ0_charAt_5068e 1 = .ok (.invokevirtual 492, 3) := by decide +kernel
theorem dJ0_charAt_5068e_4 : decode cJ0_charAt_5068e 4 = .ok (.ifCond .eq 12, 3) := by decide +kernel
theorem dJ0_charAt_5068e_7 : decode cJ0_charAt_5068e 7 = .ok (.aload_n 0, 1) := by decide +kernel
theorem dJ0_charAt_5068e_8 : decode cJ0_charAt_5068e 8 = .ok (.getfield 9, 3) := by decide +kernel
theorem dJ0_charAt_5068e_11 : decode cJ0_charAt_5068e 11 = .ok (.iload_n 1, 1) := by decide +kernel
theorem dJ0_charAt_5068e_12 : decode cJ0_charAt_5068e 12 = .ok (.invokestatic 495, 3) := by decide +kernel
theorem dJ0_charAt_5068e_15 : decode cJ0_charAt_5068e 15 = .ok (.ireturn, 1) := by decide +kernel
theorem dJ0_coder_7d493_0 : decode cJ0_coder_7d493 0 = .ok (.getstatic 38, 3) := by decide +kernel
theorem dJ0_coder_7d493_3 : decode cJ0_coder_7d493 3 = .ok (.ifCond .eq 10, 3) := by decide +kernel
theorem dJ0_coder_7d493_6 : decode cJ0_coder_7d493 6 = .ok (.aload_n 0, 1) := by decide +kernel
theorem dJ0_coder_7d493_7 : decode cJ0_coder_7d493 7 = .ok (.getfield 15, 3) := by decide +kernel
theorem dJ0_coder_7d493_10 : decode cJ0_coder_7d493 10 = .ok (.goto 4, 3) := by decide +kernel
theorem dJ0_coder_7d493_14 : decode cJ0_coder_7d493 14 = .ok (.ireturn, 1) := by decide +kernel
theorem dJ0_isLatin1_aae02_0 : decode cJ0_isLatin1_aae02 0 = .ok (.getstatic 38, 3) := by decide +kernel
theorem dJ0_isLatin1_aae02_3 : decode cJ0_isLatin1_aae02 3 = .ok (.ifCond .eq 14, 3) := by decide +kernel
theorem dJ0_isLatin1_aae02_6 : decode cJ0_isLatin1_aae02 6 = .ok (.aload_n 0, 1) := by decide +kernel
theorem dJ0_isLatin1_aae02_7 : decode cJ0_isLatin1_aae02 7 = .ok (.getfield 15, 3) := by decide +kernel
theorem dJ0_isLatin1_aae02_10 : decode cJ0_isLatin1_aae02 10 = .ok (.ifCond .ne 7, 3) := by decide +kernel
theorem dJ0_isLatin1_aae02_13 : decode cJ0_isLatin1_aae02 13 = .ok (.iconst 1, 1) := by decide +kernel
theorem dJ0_isLatin1_aae02_14 : decode cJ0_isLatin1_aae02 14 = .ok (.goto 4, 3) := by decide +kernel
theorem dJ0_isLatin1_aae02_18 : decode cJ0_isLatin1_aae02 18 = .ok (.ireturn, 1) := by decide +kernel
theorem dJ0_checkIndex_df160_0 : decode cJ0_checkIndex_df160 0 = .ok (.iload_n 0, 1) := by decide +kernel
theorem dJ0_checkIndex_df160_1 : decode cJ0_checkIndex_df160 1 = .ok (.iload_n 1, 1) := by decide +kernel
theorem dJ0_checkIndex_df160_2 : decode cJ0_checkIndex_df160 2 = .ok (.getstatic 1053, 3) := by decide +kernel
theorem dJ0_checkIndex_df160_5 : decode cJ0_checkIndex_df160 5 = .ok (.invokestatic 1059, 3) := by decide +kernel
theorem dJ0_checkIndex_df160_8 : decode cJ0_checkIndex_df160 8 = .ok (.pop, 1) := by decide +kernel
theorem dJ0_checkIndex_df160_9 : decode cJ0_checkIndex_df160 9 = .ok (.return_, 1) := by decide +kernel
theorem dJ1_charAt_3b067_0 : decode cJ1_charAt_3b067 0 = .ok (.iload_n 1, 1) := by decide +kernel
theorem dJ1_charAt_3b067_1 : decode cJ1_charAt_3b067 1 = .ok (.aload_n 0, 1) := by decide +kernel
theorem dJ1_charAt_3b067_2 : decode cJ1_charAt_3b067 2 = .ok (.arraylength, 1) := by decide +kernel
theorem dJ1_charAt_3b067_3 : decode cJ1_charAt_3b067 3 = .ok (.invokestatic 9, 3) := by decide +kernel
theorem dJ1_charAt_3b067_6 : decode cJ1_charAt_3b067 6 = .ok (.aload_n 0, 1) := by decide +kernel
theorem dJ1_charAt_3b067_7 : decode cJ1_charAt_3b067 7 = .ok (.iload_n 1, 1) := by decide +kernel
theorem dJ1_charAt_3b067_8 : decode cJ1_charAt_3b067 8 = .ok (.baload, 1) := by decide +kernel
theorem dJ1_charAt_3b067_9 : decode cJ1_charAt_3b067 9 = .ok (.sipush 255, 3) := by decide +kernel
theorem dJ1_charAt_3b067_12 : decode cJ1_charAt_3b067 12 = .ok (.iand, 1) := by decide +kernel
theorem dJ1_charAt_3b067_13 : decode cJ1_charAt_3b067 13 = .ok (.i2c, 1) := by decide +kernel
theorem dJ1_charAt_3b067_14 : decode cJ1_charAt_3b067 14 = .ok (.ireturn, 1) := by decide +kernel
theorem dJ3_checkIndex_8e157_0 : decode cJ3_checkIndex_8e157 0 = .ok (.iload_n 0, 1) := by decide +kernel
theorem dJ3_checkIndex_8e157_1 : decode cJ3_checkIndex_8e157 1 = .ok (.ifCond .lt 8, 3) := by decide +kernel
theorem dJ3_checkIndex_8e157_4 : decode cJ3_checkIndex_8e157 4 = .ok (.iload_n 0, 1) := by decide +kernel
theorem dJ3_checkIndex_8e157_5 : decode cJ3_checkIndex_8e157 5 = .ok (.iload_n 1, 1) := by decide +kernel
theorem dJ3_checkIndex_8e157_6 : decode cJ3_checkIndex_8e157 6 = .ok (.if_icmp .lt 10, 3) := by decide +kernel
theorem dJ3_checkIndex_8e157_16 : decode cJ3_checkIndex_8e157 16 = .ok (.iload_n 0, 1) := by decide +kernel
theorem dJ3_checkIndex_8e157_17 : decode cJ3_checkIndex_8e157 17 = .ok (.ireturn, 1) := by decide +kernel
