theorem dX9_letting_156 : decode cX9_letting 156 = .ok (.ldc 166, 2) := by decide +kernel
theorem dX9_letting_158 : decode cX9_letting 158 = .ok (.goto 14, 3) := by decide +kernel
theorem dX9_letting_161 : decode cX9_letting 161 = .ok (.iload_n 2, 1) := by decide +kernel
theorem dX9_letting_162 : decode cX9_letting 162 = .ok (.ifCond .ne 8, 3) := by decide +kernel
theorem dX9_letting_165 : decode cX9_letting 165 = .ok (.iload 5, 2) := by decide +kernel
theorem dX9_letting_167 : decode cX9_letting 167 = .ok (.goto 5, 3) := by decide +kernel
theorem dX9_letting_170 : decode cX9_letting 170 = .ok (.iload 6, 2) := by decide +kernel
theorem dX9_letting_172 : decode cX9_letting 172 = .ok (.ireturn, 1) := by decide +kernel
theorem dX9_takes_0 : decode cX9_takes 0 = .ok (.iload_n 1, 1) := by decide +kernel
theorem dX9_takes_1 : decode cX9_takes 1 = .ok (.iconst 0, 1) := by decide +kernel
theorem dX9_takes_2 : decode cX9_takes 2 = .ok (.iconst 5, 1) := by decide +kernel
theorem dX9_takes_3 : decode cX9_takes 3 = .ok (.invokestatic 75, 3) := by decide +kernel
theorem dX9_takes_6 : decode cX9_takes 6 = .ok (.ifCond .eq 20, 3) := by decide +kernel
theorem dX9_takes_9 : decode cX9_takes 9 = .ok (.iload_n 2, 1) := by decide +kernel
theorem dX9_takes_10 : decode cX9_takes 10 = .ok (.invokestatic 125, 3) := by decide +kernel
theorem dX9_takes_13 : decode cX9_takes 13 = .ok (.ifCond .eq 13, 3) := by decide +kernel
theorem dX9_takes_16 : decode cX9_takes 16 = .ok (.iload_n 3, 1) := by decide +kernel
theorem dX9_takes_17 : decode cX9_takes 17 = .ok (.iconst 1, 1) := by decide +kernel
theorem dX9_takes_18 : decode cX9_takes 18 = .ok (.bipush 60, 2) := by decide +kernel
theorem dX9_takes_20 : decode cX9_takes 20 = .ok (.invokestatic 75, 3) := by decide +kernel
theorem dX9_takes_23 : decode cX9_takes 23 = .ok (.ifCond .ne 6, 3) := by decide +kernel
theorem dX9_takes_26 : decode cX9_takes 26 = .ok (.ldc 83, 2) := by decide +kernel
theorem dX9_takes_28 : decode cX9_takes 28 = .ok (.ireturn, 1) := by decide +kernel
theorem dX9_takes_29 : decode cX9_takes 29 = .ok (.aload_n 0, 1) := by decide +kernel
theorem dX9_takes_30 : decode cX9_takes 30 = .ok (.invokevirtual 153, 3) := by decide +kernel
theorem dX9_takes_33 : decode cX9_takes 33 = .ok (.aload_n 0, 1) := by decide +kernel
theorem dX9_takes_34 : decode cX9_takes 34 = .ok (.iload_n 3, 1) := by decide +kernel
theorem dX9_takes_35 : decode cX9_takes 35 = .ok (.invokevirtual 143, 3) := by decide +kernel
theorem dX9_takes_38 : decode cX9_takes 38 = .ok (.aload_n 0, 1) := by decide +kernel
theorem dX9_takes_39 : decode cX9_takes 39 = .ok (.iconst 3, 1) := by decide +kernel
theorem dX9_takes_40 : decode cX9_takes 40 = .ok (.invokevirtual 140, 3) := by decide +kernel
theorem dX9_takes_43 : decode cX9_takes 43 = .ok (.istore 4, 2) := by decide +kernel
theorem dX9_takes_45 : decode cX9_takes 45 = .ok (.aload_n 0, 1) := by decide +kernel
theorem dX9_takes_46 : decode cX9_takes 46 = .ok (.invokevirtual 159, 3) := by decide +kernel
theorem dX9_takes_49 : decode cX9_takes 49 = .ok (.aload_n 0, 1) := by decide +kernel
theorem dX9_takes_50 : decode cX9_takes 50 = .ok (.iload_n 1, 1) := by decide +kernel
theorem dX9_takes_51 : decode cX9_takes 51 = .ok (.iload_n 2, 1) := by decide +kernel
theorem dX9_takes_52 : decode cX9_takes 52 = .ok (.bipush 10, 2) := by decide +kernel
theorem dX9_takes_54 : decode cX9_takes 54 = .ok (.invokevirtual 85, 3) := by decide +kernel
theorem dX9_takes_57 : decode cX9_takes 57 = .ok (.istore 5, 2) := by decide +kernel
theorem dX9_takes_59 : decode cX9_takes 59 = .ok (.aload_n 0, 1) := by decide +kernel
theorem dX9_takes_60 : decode cX9_takes 60 = .ok (.iload_n 3, 1) := by decide +kernel
theorem dX9_takes_61 : decode cX9_takes 61 = .ok (.invokevirtual 143, 3) := by decide +kernel
theorem dX9_takes_64 : decode cX9_takes 64 = .ok (.aload_n 0, 1) := by decide +kernel
theorem dX9_takes_65 : decode cX9_takes 65 = .ok (.iconst 3, 1) := by decide +kernel
theorem dX9_takes_66 : decode cX9_takes 66 = .ok (.invokevirtual 140, 3) := by decide +kernel
theorem dX9_takes_69 : decode cX9_takes 69 = .ok (.aload_n 0, 1) := by decide +kernel
theorem dX9_takes_70 : decode cX9_takes 70 = .ok (.iload 5, 2) := by decide +kernel
theorem dX9_takes_72 : decode cX9_takes 72 = .ok (.iconst 3, 1) := by decide +kernel
theorem dX9_takes_73 : decode cX9_takes 73 = .ok (.invokevirtual 89, 3) := by decide +kernel
theorem dX9_takes_76 : decode cX9_takes 76 = .ok (.isub, 1) := by decide +kernel
theorem dX9_takes_77 : decode cX9_takes 77 = .ok (.istore 6, 2) := by decide +kernel
theorem dX9_takes_79 : decode cX9_takes 79 = .ok (.aload_n 0, 1) := by decide +kernel
theorem dX9_takes_80 : decode cX9_takes 80 = .ok (.invokevirtual 159, 3) := by decide +kernel
theorem dX9_takes_83 : decode cX9_takes 83 = .ok (.iload 4, 2) := by decide +kernel
theorem dX9_takes_85 : decode cX9_takes 85 = .ok (.iload 6, 2) := by decide +kernel
theorem dX9_takes_87 : decode cX9_takes 87 = .ok (.isub, 1) := by decide +kernel
theorem dX9_takes_88 : decode cX9_takes 88 = .ok (.ireturn, 1) := by decide +kernel
theorem dX9_isOwing_0 : decode cX9_isOwing 0 = .ok (.iconst 0, 1) := by decide +kernel
theorem dX9_isOwing_1 : decode cX9_isOwing 1 = .ok (.istore_n 1, 1) := by decide +kernel
theorem dX9_isOwing_2 : decode cX9_isOwing 2 = .ok (.iload_n 1, 1) := by decide +kernel
theorem dX9_isOwing_3 : decode cX9_isOwing 3 = .ok (.aload_n 0, 1) := by decide +kernel
theorem dX9_isOwing_4 : decode cX9_isOwing 4 = .ok (.getfield 9, 3) := by decide +kernel
theorem dX9_isOwing_7 : decode cX9_isOwing 7 = .ok (.iconst 1, 1) := by decide +kernel
theorem dX9_isOwing_8 : decode cX9_isOwing 8 = .ok (.iaload, 1) := by decide +kernel
theorem dX9_isOwing_9 : decode cX9_isOwing 9 = .ok (.if_icmp .ge 20, 3) := by decide +kernel
theorem dX9_isOwing_12 : decode cX9_isOwing 12 = .ok (.aload_n 0, 1) := by decide +kernel
theorem dX9_isOwing_13 : decode cX9_isOwing 13 = .ok (.iload_n 1, 1) := by decide +kernel
theorem dX9_isOwing_14 : decode cX9_isOwing 14 = .ok (.iconst 3, 1) := by decide +kernel
theorem dX9_isOwing_15 : decode cX9_isOwing 15 = .ok (.invokevirtual 89, 3) := by decide +kernel
theorem dX9_isOwing_18 : decode cX9_isOwing 18 = .ok (.ifCond .ge 5, 3) := by decide +kernel
theorem dX9_isOwing_21 : decode cX9_isOwing 21 = .ok (.iconst 1, 1) := by decide +kernel
theorem dX9_isOwing_22 : decode cX9_isOwing 22 = .ok (.ireturn, 1) := by decide +kernel
theorem dX9_isOwing_23 : decode cX9_isOwing 23 = .ok (.iinc 1 1, 3) := by decide +kernel
theorem dX9_isOwing_26 : decode cX9_isOwing 26 = .ok (.goto (-24), 3) := by decide +kernel
theorem dX9_isOwing_29 : decode cX9_isOwing 29 = .ok (.iconst 0, 1) := by decide +kernel
theorem dX9_isOwing_30 : decode cX9_isOwing 30 = .ok (.ireturn, 1) := by decide +kernel
theorem dX9_bestRent_0 : decode cX9_bestRent 0 = .ok (.iload_n 1, 1) := by decide +kernel
theorem dX9_bestRent_1 : decode cX9_bestRent 1 = .ok (.iconst 1, 1) := by decide +kernel
theorem dX9_bestRent_2 : decode cX9_bestRent 2 = .ok (.bipush 60, 2) := by decide +kernel
theorem dX9_bestRent_4 : decode cX9_bestRent 4 = .ok (.invokestatic 75, 3) := by decide +kernel
theorem dX9_bestRent_7 : decode cX9_bestRent 7 = .ok (.ifCond .eq 12, 3) := by decide +kernel
theorem dX9_bestRent_10 : decode cX9_bestRent 10 = .ok (.iload_n 2, 1) := by decide +kernel
theorem dX9_bestRent_11 : decode cX9_bestRent 11 = .ok (.iconst 0, 1) := by decide +kernel
theorem dX9_bestRent_12 : decode cX9_bestRent 12 = .ok (.iconst 1, 1) := by decide +kernel
theorem dX9_bestRent_13 : decode cX9_bestRent 13 = .ok (.invokestatic 75, 3) := by decide +kernel
theorem dX9_bestRent_16 : decode cX9_bestRent 16 = .ok (.ifCond .ne 6, 3) := by decide +kernel
theorem dX9_bestRent_19 : decode cX9_bestRent 19 = .ok (.ldc 83, 2) := by decide +kernel
theorem dX9_bestRent_21 : decode cX9_bestRent 21 = .ok (.ireturn, 1) := by decide +kernel
theorem dX9_bestRent_22 : decode cX9_bestRent 22 = .ok (.aload_n 0, 1) := by decide +kernel
theorem dX9_bestRent_23 : decode cX9_bestRent 23 = .ok (.invokevirtual 153, 3) := by decide +kernel
theorem dX9_bestRent_26 : decode cX9_bestRent 26 = .ok (.iconst (-1), 1) := by decide +kernel
theorem dX9_bestRent_27 : decode cX9_bestRent 27 = .ok (.istore_n 3, 1) := by decide +kernel
theorem dX9_bestRent_28 : decode cX9_bestRent 28 = .ok (.iconst 0, 1) := by decide +kernel
theorem dX9_bestRent_29 : decode cX9_bestRent 29 = .ok (.istore 4, 2) := by decide +kernel
theorem dX9_bestRent_31 : decode cX9_bestRent 31 = .ok (.iconst 0, 1) := by decide +kernel
theorem dX9_bestRent_32 : decode cX9_bestRent 32 = .ok (.istore 5, 2) := by decide +kernel
theorem dX9_bestRent_34 : decode cX9_bestRent 34 = .ok (.iload 5, 2) := by decide +kernel
theorem dX9_bestRent_36 : decode cX9_bestRent 36 = .ok (.bipush 10, 2) := by decide +kernel
theorem dX9_bestRent_38 : decode cX9_bestRent 38 = .ok (.if_icmp .ge 80, 3) := by decide +kernel
theorem dX9_bestRent_41 : decode cX9_bestRent 41 = .ok (.iconst 0, 1) := by decide +kernel
theorem dX9_bestRent_42 : decode cX9_bestRent 42 = .ok (.istore 6, 2) := by decide +kernel
theorem dX9_bestRent_44 : decode cX9_bestRent 44 = .ok (.iload 6, 2) := by decide +kernel
theorem dX9_bestRent_46 : decode cX9_bestRent 46 = .ok (.bipush 8, 2) := by decide +kernel
theorem dX9_bestRent_48 : decode cX9_bestRent 48 = .ok (.if_icmp .ge 21, 3) := by decide +kernel
theorem dX9_bestRent_51 : decode cX9_bestRent 51 = .ok (.aload_n 0, 1) := by decide +kernel
theorem dX9_bestRent_52 : decode cX9_bestRent 52 = .ok (.getfield 9, 3) := by decide +kernel
theorem dX9_bestRent_55 : decode cX9_bestRent 55 = .ok (.bipush 8, 2) := by decide +kernel
theorem dX9_bestRent_57 : decode cX9_bestRent 57 = .ok (.iload 6, 2) := by decide +kernel
theorem dX9_bestRent_59 : decode cX9_bestRent 59 = .ok (.iadd, 1) := by decide +kernel
theorem dX9_bestRent_60 : decode cX9_bestRent 60 = .ok (.iload 5, 2) := by decide +kernel
theorem dX9_bestRent_62 : decode cX9_bestRent 62 = .ok (.iastore, 1) := by decide +kernel
theorem dX9_bestRent_63 : decode cX9_bestRent 63 = .ok (.iinc 6 1, 3) := by decide +kernel
theorem dX9_bestRent_66 : decode cX9_bestRent 66 = .ok (.goto (-22), 3) := by decide +kernel
theorem dX9_bestRent_69 : decode cX9_bestRent 69 = .ok (.aload_n 0, 1) := by decide +kernel
theorem dX9_bestRent_70 : decode cX9_bestRent 70 = .ok (.iload_n 1, 1) := by decide +kernel
theorem dX9_bestRent_71 : decode cX9_bestRent 71 = .ok (.invokevirtual 143, 3) := by decide +kernel
theorem dX9_bestRent_74 : decode cX9_bestRent 74 = .ok (.aload_n 0, 1) := by decide +kernel
theorem dX9_bestRent_75 : decode cX9_bestRent 75 = .ok (.getfield 9, 3) := by decide +kernel
theorem dX9_bestRent_78 : decode cX9_bestRent 78 = .ok (.bipush 6, 2) := by decide +kernel
theorem dX9_bestRent_80 : decode cX9_bestRent 80 = .ok (.iaload, 1) := by decide +kernel
theorem dX9_bestRent_81 : decode cX9_bestRent 81 = .ok (.istore 6, 2) := by decide +kernel
theorem dX9_bestRent_83 : decode cX9_bestRent 83 = .ok (.aload_n 0, 1) := by decide +kernel
theorem dX9_bestRent_84 : decode cX9_bestRent 84 = .ok (.invokevirtual 167, 3) := by decide +kernel
theorem dX9_bestRent_87 : decode cX9_bestRent 87 = .ok (.ifCond .ne 21, 3) := by decide +kernel
theorem dX9_bestRent_90 : decode cX9_bestRent 90 = .ok (.iload_n 3, 1) := by decide +kernel
theorem dX9_bestRent_91 : decode cX9_bestRent 91 = .ok (.ifCond .lt 10, 3) := by decide +kernel
theorem dX9_bestRent_94 : decode cX9_bestRent 94 = .ok (.iload 6, 2) := by decide +kernel
theorem dX9_bestRent_96 : decode cX9_bestRent 96 = .ok (.iload 4, 2) := by decide +kernel
theorem dX9_bestRent_98 : decode cX9_bestRent 98 = .ok (.if_icmp .le 10, 3) := by decide +kernel
theorem dX9_bestRent_101 : decode cX9_bestRent 101 = .ok (.iload 5, 2) := by decide +kernel
theorem dX9_bestRent_103 : decode cX9_bestRent 103 = .ok (.istore_n 3, 1) := by decide +kernel
theorem dX9_bestRent_104 : decode cX9_bestRent 104 = .ok (.iload 6, 2) := by decide +kernel
theorem dX9_bestRent_106 : decode cX9_bestRent 106 = .ok (.istore 4, 2) := by decide +kernel
theorem dX9_bestRent_108 : decode cX9_bestRent 108 = .ok (.aload_n 0, 1) := by decide +kernel
theorem dX9_bestRent_109 : decode cX9_bestRent 109 = .ok (.invokevirtual 159, 3) := by decide +kernel
theorem dX9_bestRent_112 : decode cX9_bestRent 112 = .ok (.iinc 5 1, 3) := by decide +kernel
theorem dX9_bestRent_115 : decode cX9_bestRent 115 = .ok (.goto (-81), 3) := by decide +kernel
theorem dX9_bestRent_118 : decode cX9_bestRent 118 = .ok (.iload_n 3, 1) := by decide +kernel
theorem dX9_bestRent_119 : decode cX9_bestRent 119 = .ok (.ifCond .ge 8, 3) := by decide +kernel
theorem dX9_bestRent_122 : decode cX9_bestRent 122 = .ok (.ldc 166, 2) := by decide +kernel
theorem dX9_bestRent_124 : decode cX9_bestRent 124 = .ok (.goto 13, 3) := by decide +kernel
theorem dX9_bestRent_127 : decode cX9_bestRent 127 = .ok (.iload_n 2, 1) := by decide +kernel
theorem dX9_bestRent_128 : decode cX9_bestRent 128 = .ok (.ifCond .ne 7, 3) := by decide +kernel
theorem dX9_bestRent_131 : decode cX9_bestRent 131 = .ok (.iload_n 3, 1) := by decide +kernel
theorem dX9_bestRent_132 : decode cX9_bestRent 132 = .ok (.goto 5, 3) := by decide +kernel
theorem dX9_bestRent_135 : decode cX9_bestRent 135 = .ok (.iload 4, 2) := by decide +kernel
theorem dX9_bestRent_137 : decode cX9_bestRent 137 = .ok (.ireturn, 1) := by decide +kernel
theorem dX9_mourned_0 : decode cX9_mourned 0 = .ok (.iload_n 1, 1) := by decide +kernel
theorem dX9_mourned_1 : decode cX9_mourned 1 = .ok (.iconst 1, 1) := by decide +kernel
theorem dX9_mourned_2 : decode cX9_mourned 2 = .ok (.bipush 60, 2) := by decide +kernel
theorem dX9_mourned_4 : decode cX9_mourned 4 = .ok (.invokestatic 75, 3) := by decide +kernel
theorem dX9_mourned_7 : decode cX9_mourned 7 = .ok (.ifCond .eq 12, 3) := by decide +kernel
theorem dX9_mourned_10 : decode cX9_mourned 10 = .ok (.iload_n 2, 1) := by decide +kernel
theorem dX9_mourned_11 : decode cX9_mourned 11 = .ok (.iconst 0, 1) := by decide +kernel
theorem dX9_mourned_12 : decode cX9_mourned 12 = .ok (.iconst 1, 1) := by decide +kernel
theorem dX9_mourned_13 : decode cX9_mourned 13 = .ok (.invokestatic 75, 3) := by decide +kernel
theorem dX9_mourned_16 : decode cX9_mourned 16 = .ok (.ifCond .ne 6, 3) := by decide +kernel
theorem dX9_mourned_19 : decode cX9_mourned 19 = .ok (.ldc 83, 2) := by decide +kernel
theorem dX9_mourned_21 : decode cX9_mourned 21 = .ok (.ireturn, 1) := by decide +kernel
theorem dX9_mourned_22 : decode cX9_mourned 22 = .ok (.aload_n 0, 1) := by decide +kernel
theorem dX9_mourned_23 : decode cX9_mourned 23 = .ok (.invokevirtual 153, 3) := by decide +kernel
theorem dX9_mourned_26 : decode cX9_mourned 26 = .ok (.iconst (-1), 1) := by decide +kernel
theorem dX9_mourned_27 : decode cX9_mourned 27 = .ok (.istore_n 3, 1) := by decide +kernel
theorem dX9_mourned_28 : decode cX9_mourned 28 = .ok (.iconst 0, 1) := by decide +kernel
theorem dX9_mourned_29 : decode cX9_mourned 29 = .ok (.istore 4, 2) := by decide +kernel
theorem dX9_mourned_31 : decode cX9_mourned 31 = .ok (.iconst 0, 1) := by decide +kernel
theorem dX9_mourned_32 : decode cX9_mourned 32 = .ok (.istore 5, 2) := by decide +kernel
theorem dX9_mourned_34 : decode cX9_mourned 34 = .ok (.iload 5, 2) := by decide +kernel
theorem dX9_mourned_36 : decode cX9_mourned 36 = .ok (.bipush 8, 2) := by decide +kernel
theorem dX9_mourned_38 : decode cX9_mourned 38 = .ok (.if_icmp .ge 51, 3) := by decide +kernel
theorem dX9_mourned_41 : decode cX9_mourned 41 = .ok (.aload_n 0, 1) := by decide +kernel
theorem dX9_mourned_42 : decode cX9_mourned 42 = .ok (.getfield 9, 3) := by decide +kernel
theorem dX9_mourned_45 : decode cX9_mourned 45 = .ok (.iconst 5, 1) := by decide +kernel
theorem dX9_mourned_46 : decode cX9_mourned 46 = .ok (.iload 5, 2) := by decide +kernel
theorem dX9_mourned_48 : decode cX9_mourned 48 = .ok (.iastore, 1) := by decide +kernel
theorem dX9_mourned_49 : decode cX9_mourned 49 = .ok (.aload_n 0, 1) := by decide +kernel
theorem dX9_mourned_50 : decode cX9_mourned 50 = .ok (.iload_n 1, 1) := by decide +kernel
theorem dX9_mourned_51 : decode cX9_mourned 51 = .ok (.invokevirtual 143, 3) := by decide +kernel
theorem dX9_mourned_54 : decode cX9_mourned 54 = .ok (.aload_n 0, 1) := by decide +kernel
theorem dX9_mourned_55 : decode cX9_mourned 55 = .ok (.iconst 3, 1) := by decide +kernel
theorem dX9_mourned_56 : decode cX9_mourned 56 = .ok (.invokevirtual 140, 3) := by decide +kernel
theorem dX9_mourned_59 : decode cX9_mourned 59 = .ok (.istore 6, 2) := by decide +kernel
theorem dX9_mourned_61 : decode cX9_mourned 61 = .ok (.aload_n 0, 1) := by decide +kernel
theorem dX9_mourned_62 : decode cX9_mourned 62 = .ok (.invokevirtual 159, 3) := by decide +kernel
theorem dX9_mourned_65 : decode cX9_mourned 65 = .ok (.iload_n 3, 1) := by decide +kernel
theorem dX9_mourned_66 : decode cX9_mourned 66 = .ok (.ifCond .lt 10, 3) := by decide +kernel
theorem dX9_mourned_69 : decode cX9_mourned 69 = .ok (.iload 6, 2) := by decide +kernel
theorem dX9_mourned_71 : decode cX9_mourned 71 = .ok (.iload 4, 2) := by decide +kernel
theorem dX9_mourned_73 : decode cX9_mourned 73 = .ok (.if_icmp .le 10, 3) := by decide +kernel
theorem dX9_mourned_76 : decode cX9_mourned 76 = .ok (.iload 5, 2) := by decide +kernel
theorem dX9_mourned_78 : decode cX9_mourned 78 = .ok (.istore_n 3, 1) := by decide +kernel
theorem dX9_mourned_79 : decode cX9_mourned 79 = .ok (.iload 6, 2) := by decide +kernel
theorem dX9_mourned_81 : decode cX9_mourned 81 = .ok (.istore 4, 2) := by decide +kernel
theorem dX9_mourned_83 : decode cX9_mourned 83 = .ok (.iinc 5 1, 3) := by decide +kernel
theorem dX9_mourned_86 : decode cX9_mourned 86 = .ok (.goto (-52), 3) := by decide +kernel
theorem dX9_mourned_89 : decode cX9_mourned 89 = .ok (.iload_n 2, 1) := by decide +kernel
theorem dX9_mourned_90 : decode cX9_mourned 90 = .ok (.ifCond .ne 7, 3) := by decide +kernel
theorem dX9_mourned_93 : decode cX9_mourned 93 = .ok (.iload_n 3, 1) := by decide +kernel
theorem dX9_mourned_94 : decode cX9_mourned 94 = .ok (.goto 5, 3) := by decide +kernel
theorem dX9_mourned_97 : decode cX9_mourned 97 = .ok (.iload 4, 2) := by decide +kernel
theorem dX9_mourned_99 : decode cX9_mourned 99 = .ok (.ireturn, 1) := by decide +kernel
theorem dX9_offBy_0 : decode cX9_offBy 0 = .ok (.aload_n 0, 1) := by decide +kernel
theorem dX9_offBy_1 : decode cX9_offBy 1 = .ok (.iload_n 2, 1) := by decide +kernel
theorem dX9_offBy_2 : decode cX9_offBy 2 = .ok (.iconst 1, 1) := by decide +kernel
theorem dX9_offBy_3 : decode cX9_offBy 3 = .ok (.iload_n 3, 1) := by decide +kernel
theorem dX9_offBy_4 : decode cX9_offBy 4 = .ok (.invokevirtual 79, 3) := by decide +kernel
theorem dX9_offBy_7 : decode cX9_offBy 7 = .ok (.lconst 0, 1) := by decide +kernel
theorem dX9_offBy_8 : decode cX9_offBy 8 = .ok (.lstore 4, 2) := by decide +kernel
theorem dX9_offBy_10 : decode cX9_offBy 10 = .ok (.iconst 0, 1) := by decide +kernel
theorem dX9_offBy_11 : decode cX9_offBy 11 = .ok (.istore 6, 2) := by decide +kernel
theorem dX9_offBy_13 : decode cX9_offBy 13 = .ok (.iload 6, 2) := by decide +kernel
theorem dX9_offBy_15 : decode cX9_offBy 15 = .ok (.aload_n 0, 1) := by decide +kernel
theorem dX9_offBy_16 : decode cX9_offBy 16 = .ok (.getfield 51, 3) := by decide +kernel
theorem dX9_offBy_19 : decode cX9_offBy 19 = .ok (.iload_n 1, 1) := by decide +kernel
theorem dX9_offBy_20 : decode cX9_offBy 20 = .ok (.iaload, 1) := by decide +kernel
theorem dX9_offBy_21 : decode cX9_offBy 21 = .ok (.if_icmp .ge 71, 3) := by decide +kernel
theorem dX9_offBy_24 : decode cX9_offBy 24 = .ok (.aload_n 0, 1) := by decide +kernel
theorem dX9_offBy_25 : decode cX9_offBy 25 = .ok (.getfield 54, 3) := by decide +kernel
theorem dX9_offBy_28 : decode cX9_offBy 28 = .ok (.bipush 24, 2) := by decide +kernel
theorem dX9_offBy_30 : decode cX9_offBy 30 = .ok (.iload_n 1, 1) := by decide +kernel
theorem dX9_offBy_31 : decode cX9_offBy 31 = .ok (.imul, 1) := by decide +kernel
theorem dX9_offBy_32 : decode cX9_offBy 32 = .ok (.iload 6, 2) := by decide +kernel
theorem dX9_offBy_34 : decode cX9_offBy 34 = .ok (.iadd, 1) := by decide +kernel
theorem dX9_offBy_35 : decode cX9_offBy 35 = .ok (.iaload, 1) := by decide +kernel
theorem dX9_offBy_36 : decode cX9_offBy 36 = .ok (.istore 7, 2) := by decide +kernel
theorem dX9_offBy_38 : decode cX9_offBy 38 = .ok (.iload 7, 2) := by decide +kernel
theorem dX9_offBy_40 : decode cX9_offBy 40 = .ok (.i2l, 1) := by decide +kernel
theorem dX9_offBy_41 : decode cX9_offBy 41 = .ok (.aload_n 0, 1) := by decide +kernel
theorem dX9_offBy_42 : decode cX9_offBy 42 = .ok (.iload_n 2, 1) := by decide +kernel
theorem dX9_offBy_43 : decode cX9_offBy 43 = .ok (.iconst 3, 1) := by decide +kernel
theorem dX9_offBy_44 : decode cX9_offBy 44 = .ok (.invokevirtual 89, 3) := by decide +kernel
theorem dX9_offBy_47 : decode cX9_offBy 47 = .ok (.i2l, 1) := by decide +kernel
theorem dX9_offBy_48 : decode cX9_offBy 48 = .ok (.lsub, 1) := by decide +kernel
theorem dX9_offBy_49 : decode cX9_offBy 49 = .ok (.lstore 8, 2) := by decide +kernel
theorem dX9_offBy_51 : decode cX9_offBy 51 = .ok (.lload 4, 2) := by decide +kernel
theorem dX9_offBy_53 : decode cX9_offBy 53 = .ok (.iload 7, 2) := by decide +kernel
theorem dX9_offBy_55 : decode cX9_offBy 55 = .ok (.ldc 166, 2) := by decide +kernel
theorem dX9_offBy_57 : decode cX9_offBy 57 = .ok (.if_icmp .ne 7, 3) := by decide +kernel
theorem dX9_offBy_60 : decode cX9_offBy 60 = .ok (.lconst 0, 1) := by decide +kernel
theorem dX9_offBy_61 : decode cX9_offBy 61 = .ok (.goto 18, 3) := by decide +kernel
theorem dX9_offBy_64 : decode cX9_offBy 64 = .ok (.lload 8, 2) := by decide +kernel
theorem dX9_offBy_66 : decode cX9_offBy 66 = .ok (.lconst 0, 1) := by decide +kernel
theorem dX9_offBy_67 : decode cX9_offBy 67 = .ok (.lcmp, 1) := by decide +kernel
theorem dX9_offBy_68 : decode cX9_offBy 68 = .ok (.ifCond .ge 9, 3) := by decide +kernel
theorem dX9_offBy_71 : decode cX9_offBy 71 = .ok (.lload 8, 2) := by decide +kernel
theorem dX9_offBy_73 : decode cX9_offBy 73 = .ok (.lneg, 1) := by decide +kernel
theorem dX9_offBy_74 : decode cX9_offBy 74 = .ok (.goto 5, 3) := by decide +kernel
theorem dX9_offBy_77 : decode cX9_offBy 77 = .ok (.lload 8, 2) := by decide +kernel
theorem dX9_offBy_79 : decode cX9_offBy 79 = .ok (.ladd, 1) := by decide +kernel
theorem dX9_offBy_80 : decode cX9_offBy 80 = .ok (.lstore 4, 2) := by decide +kernel
theorem dX9_offBy_82 : decode cX9_offBy 82 = .ok (.aload_n 0, 1) := by decide +kernel
theorem dX9_offBy_83 : decode cX9_offBy 83 = .ok (.invokevirtual 137, 3) := by decide +kernel
theorem dX9_offBy_86 : decode cX9_offBy 86 = .ok (.iinc 6 1, 3) := by decide +kernel
theorem dX9_offBy_89 : decode cX9_offBy 89 = .ok (.goto (-76), 3) := by decide +kernel
theorem dX9_offBy_92 : decode cX9_offBy 92 = .ok (.aload_n 0, 1) := by decide +kernel
theorem dX9_offBy_93 : decode cX9_offBy 93 = .ok (.invokevirtual 159, 3) := by decide +kernel
theorem dX9_offBy_96 : decode cX9_offBy 96 = .ok (.lload 4, 2) := by decide +kernel
theorem dX9_offBy_98 : decode cX9_offBy 98 = .ok (.lreturn, 1) := by decide +kernel
theorem dX9_stood_0 : decode cX9_stood 0 = .ok (.iload_n 1, 1) := by decide +kernel
theorem dX9_stood_1 : decode cX9_stood 1 = .ok (.invokestatic 171, 3) := by decide +kernel
theorem dX9_stood_4 : decode cX9_stood 4 = .ok (.ifCond .eq 20, 3) := by decide +kernel
theorem dX9_stood_7 : decode cX9_stood 7 = .ok (.aload_n 0, 1) := by decide +kernel
theorem dX9_stood_8 : decode cX9_stood 8 = .ok (.iload_n 2, 1) := by decide +kernel
theorem dX9_stood_9 : decode cX9_stood 9 = .ok (.invokevirtual 93, 3) := by decide +kernel
theorem dX9_stood_12 : decode cX9_stood 12 = .ok (.ifCond .eq 12, 3) := by decide +kernel
theorem dX9_stood_15 : decode cX9_stood 15 = .ok (.iload_n 3, 1) := by decide +kernel
theorem dX9_stood_16 : decode cX9_stood 16 = .ok (.iconst 0, 1) := by decide +kernel
theorem dX9_stood_17 : decode cX9_stood 17 = .ok (.iconst 1, 1) := by decide +kernel
theorem dX9_stood_18 : decode cX9_stood 18 = .ok (.invokestatic 75, 3) := by decide +kernel
theorem dX9_stood_21 : decode cX9_stood 21 = .ok (.ifCond .ne 6, 3) := by decide +kernel
theorem dX9_stood_24 : decode cX9_stood 24 = .ok (.ldc 83, 2) := by decide +kernel
theorem dX9_stood_26 : decode cX9_stood 26 = .ok (.ireturn, 1) := by decide +kernel
theorem dX9_stood_27 : decode cX9_stood 27 = .ok (.aload_n 0, 1) := by decide +kernel
theorem dX9_stood_28 : decode cX9_stood 28 = .ok (.getfield 48, 3) := by decide +kernel
theorem dX9_stood_31 : decode cX9_stood 31 = .ok (.iload_n 1, 1) := by decide +kernel
theorem dX9_stood_32 : decode cX9_stood 32 = .ok (.iaload, 1) := by decide +kernel
theorem dX9_stood_33 : decode cX9_stood 33 = .ok (.ifCond .ge 6, 3) := by decide +kernel
theorem dX9_stood_36 : decode cX9_stood 36 = .ok (.ldc 174, 2) := by decide +kernel
theorem dX9_stood_38 : decode cX9_stood 38 = .ok (.ireturn, 1) := by decide +kernel
theorem dX9_stood_39 : decode cX9_stood 39 = .ok (.aload_n 0, 1) := by decide +kernel
theorem dX9_stood_40 : decode cX9_stood 40 = .ok (.invokevirtual 153, 3) := by decide +kernel
theorem dX9_stood_43 : decode cX9_stood 43 = .ok (.iconst 0, 1) := by decide +kernel
theorem dX9_stood_44 : decode cX9_stood 44 = .ok (.istore 4, 2) := by decide +kernel
theorem dX9_stood_46 : decode cX9_stood 46 = .ok (.aload_n 0, 1) := by decide +kernel
theorem dX9_stood_47 : decode cX9_stood 47 = .ok (.iload_n 1, 1) := by decide +kernel
theorem dX9_stood_48 : decode cX9_stood 48 = .ok (.iload_n 2, 1) := by decide +kernel
theorem dX9_stood_49 : decode cX9_stood 49 = .ok (.iconst 0, 1) := by decide +kernel
theorem dX9_stood_50 : decode cX9_stood 50 = .ok (.invokevirtual 175, 3) := by decide +kernel
theorem dX9_stood_53 : decode cX9_stood 53 = .ok (.lstore 5, 2) := by decide +kernel
theorem dX9_stood_55 : decode cX9_stood 55 = .ok (.iconst 1, 1) := by decide +kernel
theorem dX9_stood_56 : decode cX9_stood 56 = .ok (.istore 7, 2) := by decide +kernel
theorem dX9_stood_58 : decode cX9_stood 58 = .ok (.iload 7, 2) := by decide +kernel
theorem dX9_stood_60 : decode cX9_stood 60 = .ok (.bipush 8, 2) := by decide +kernel
theorem dX9_stood_62 : decode cX9_stood 62 = .ok (.if_icmp .gt 53, 3) := by decide +kernel
theorem dX9_stood_65 : decode cX9_stood 65 = .ok (.aload_n 0, 1) := by decide +kernel
theorem dX9_stood_66 : decode cX9_stood 66 = .ok (.iload_n 1, 1) := by decide +kernel
theorem dX9_stood_67 : decode cX9_stood 67 = .ok (.iload_n 2, 1) := by decide +kernel
theorem dX9_stood_68 : decode cX9_stood 68 = .ok (.iload 7, 2) := by decide +kernel
theorem dX9_stood_70 : decode cX9_stood 70 = .ok (.invokevirtual 175, 3) := by decide +kernel
theorem dX9_stood_73 : decode cX9_stood 73 = .ok (.lstore 8, 2) := by decide +kernel
theorem dX9_stood_75 : decode cX9_stood 75 = .ok (.lload 8, 2) := by decide +kernel
theorem dX9_stood_77 : decode cX9_stood 77 = .ok (.lload 5, 2) := by decide +kernel
theorem dX9_stood_79 : decode cX9_stood 79 = .ok (.lcmp, 1) := by decide +kernel
theorem dX9_stood_80 : decode cX9_stood 80 = .ok (.ifCond .ge 8, 3) := by decide +kernel
theorem dX9_stood_83 : decode cX9_stood 83 = .ok (.iload 7, 2) := by decide +kernel
theorem dX9_stood_85 : decode cX9_stood 85 = .ok (.goto 5, 3) := by decide +kernel
theorem dX9_stood_88 : decode cX9_stood 88 = .ok (.iload 4, 2) := by decide +kernel
theorem dX9_stood_90 : decode cX9_stood 90 = .ok (.istore 4, 2) := by decide +kernel
theorem dX9_stood_92 : decode cX9_stood 92 = .ok (.lload 8, 2) := by decide +kernel
theorem dX9_stood_94 : decode cX9_stood 94 = .ok (.lload 5, 2) := by decide +kernel
theorem dX9_stood_96 : decode cX9_stood 96 = .ok (.lcmp, 1) := by decide +kernel
theorem dX9_stood_97 : decode cX9_stood 97 = .ok (.ifCond .ge 8, 3) := by decide +kernel
theorem dX9_stood_100 : decode cX9_stood 100 = .ok (.lload 8, 2) := by decide +kernel
theorem dX9_stood_102 : decode cX9_stood 102 = .ok (.goto 5, 3) := by decide +kernel
theorem dX9_stood_105 : decode cX9_stood 105 = .ok (.lload 5, 2) := by decide +kernel
theorem dX9_stood_107 : decode cX9_stood 107 = .ok (.lstore 5, 2) := by decide +kernel
theorem dX9_stood_109 : decode cX9_stood 109 = .ok (.iinc 7 1, 3) := by decide +kernel
theorem dX9_stood_112 : decode cX9_stood 112 = .ok (.goto (-54), 3) := by decide +kernel
theorem dX9_stood_115 : decode cX9_stood 115 = .ok (.iload_n 3, 1) := by decide +kernel
theorem dX9_stood_116 : decode cX9_stood 116 = .ok (.ifCond .ne 8, 3) := by decide +kernel
theorem dX9_stood_119 : decode cX9_stood 119 = .ok (.iload 4, 2) := by decide +kernel
theorem dX9_stood_121 : decode cX9_stood 121 = .ok (.goto 6, 3) := by decide +kernel
theorem dX9_stood_124 : decode cX9_stood 124 = .ok (.lload 5, 2) := by decide +kernel
theorem dX9_stood_126 : decode cX9_stood 126 = .ok (.l2i, 1) := by decide +kernel
theorem dX9_stood_127 : decode cX9_stood 127 = .ok (.ireturn, 1) := by decide +kernel
theorem dX9_fee_0 : decode cX9_fee 0 = .ok (.aload_n 0, 1) := by decide +kernel
theorem dX9_fee_1 : decode cX9_fee 1 = .ok (.iconst 1, 1) := by decide +kernel
theorem dX9_fee_2 : decode cX9_fee 2 = .ok (.invokevirtual 104, 3) := by decide +kernel
theorem dX9_fee_5 : decode cX9_fee 5 = .ok (.istore_n 1, 1) := by decide +kernel
theorem dX9_fee_6 : decode cX9_fee 6 = .ok (.aload_n 0, 1) := by decide +kernel
theorem dX9_fee_7 : decode cX9_fee 7 = .ok (.getfield 45, 3) := by decide +kernel
theorem dX9_fee_10 : decode cX9_fee 10 = .ok (.iconst 0, 1) := by decide +kernel
theorem dX9_fee_11 : decode cX9_fee 11 = .ok (.aload_n 0, 1) := by decide +kernel
theorem dX9_fee_12 : decode cX9_fee 12 = .ok (.getfield 9, 3) := by decide +kernel
theorem dX9_fee_15 : decode cX9_fee 15 = .ok (.bipush 6, 2) := by decide +kernel
theorem dX9_fee_17 : decode cX9_fee 17 = .ok (.iaload, 1) := by decide +kernel
theorem dX9_fee_18 : decode cX9_fee 18 = .ok (.iastore, 1) := by decide +kernel
theorem dX9_fee_19 : decode cX9_fee 19 = .ok (.aload_n 0, 1) := by decide +kernel
theorem dX9_fee_20 : decode cX9_fee 20 = .ok (.getfield 45, 3) := by decide +kernel
theorem dX9_fee_23 : decode cX9_fee 23 = .ok (.iconst 1, 1) := by decide +kernel
theorem dX9_fee_24 : decode cX9_fee 24 = .ok (.aload_n 0, 1) := by decide +kernel
theorem dX9_fee_25 : decode cX9_fee 25 = .ok (.getfield 9, 3) := by decide +kernel
theorem dX9_fee_28 : decode cX9_fee 28 = .ok (.iconst 2, 1) := by decide +kernel
theorem dX9_fee_29 : decode cX9_fee 29 = .ok (.iaload, 1) := by decide +kernel
theorem dX9_fee_30 : decode cX9_fee 30 = .ok (.iastore, 1) := by decide +kernel
theorem dX9_fee_31 : decode cX9_fee 31 = .ok (.iload_n 1, 1) := by decide +kernel
theorem dX9_fee_32 : decode cX9_fee 32 = .ok (.ifCond .ge 13, 3) := by decide +kernel
theorem dX9_fee_35 : decode cX9_fee 35 = .ok (.aload_n 0, 1) := by decide +kernel
theorem dX9_fee_36 : decode cX9_fee 36 = .ok (.getfield 9, 3) := by decide +kernel
theorem dX9_fee_39 : decode cX9_fee 39 = .ok (.bipush 6, 2) := by decide +kernel
theorem dX9_fee_41 : decode cX9_fee 41 = .ok (.iaload, 1) := by decide +kernel
theorem dX9_fee_42 : decode cX9_fee 42 = .ok (.goto 8, 3) := by decide +kernel
theorem dX9_fee_45 : decode cX9_fee 45 = .ok (.aload_n 0, 1) := by decide +kernel
theorem dX9_fee_46 : decode cX9_fee 46 = .ok (.iload_n 1, 1) := by decide +kernel
theorem dX9_fee_47 : decode cX9_fee 47 = .ok (.invokevirtual 107, 3) := by decide +kernel
theorem dX9_fee_50 : decode cX9_fee 50 = .ok (.ireturn, 1) := by decide +kernel
theorem dX9_fine_0 : decode cX9_fine 0 = .ok (.aload_n 0, 1) := by decide +kernel
theorem dX9_fine_1 : decode cX9_fine 1 = .ok (.iload_n 1, 1) := by decide +kernel
theorem dX9_fine_2 : decode cX9_fine 2 = .ok (.invokevirtual 93, 3) := by decide +kernel
theorem dX9_fine_5 : decode cX9_fine 5 = .ok (.ifCond .ne 6, 3) := by decide +kernel
theorem dX9_fine_8 : decode cX9_fine 8 = .ok (.ldc 83, 2) := by decide +kernel
theorem dX9_fine_10 : decode cX9_fine 10 = .ok (.ireturn, 1) := by decide +kernel
theorem dX9_fine_11 : decode cX9_fine 11 = .ok (.aload_n 0, 1) := by decide +kernel
theorem dX9_fine_12 : decode cX9_fine 12 = .ok (.iconst 2, 1) := by decide +kernel
theorem dX9_fine_13 : decode cX9_fine 13 = .ok (.invokevirtual 104, 3) := by decide +kernel
theorem dX9_fine_16 : decode cX9_fine 16 = .ok (.istore_n 2, 1) := by decide +kernel
theorem dX9_fine_17 : decode cX9_fine 17 = .ok (.aload_n 0, 1) := by decide +kernel
theorem dX9_fine_18 : decode cX9_fine 18 = .ok (.getfield 45, 3) := by decide +kernel
theorem dX9_fine_21 : decode cX9_fine 21 = .ok (.iconst 0, 1) := by decide +kernel
theorem dX9_fine_22 : decode cX9_fine 22 = .ok (.aload_n 0, 1) := by decide +kernel
theorem dX9_fine_23 : decode cX9_fine 23 = .ok (.iload_n 1, 1) := by decide +kernel
theorem dX9_fine_24 : decode cX9_fine 24 = .ok (.iconst 3, 1) := by decide +kernel
theorem dX9_fine_25 : decode cX9_fine 25 = .ok (.invokevirtual 89, 3) := by decide +kernel
theorem dX9_fine_28 : decode cX9_fine 28 = .ok (.iastore, 1) := by decide +kernel
theorem dX9_fine_29 : decode cX9_fine 29 = .ok (.aload_n 0, 1) := by decide +kernel
theorem dX9_fine_30 : decode cX9_fine 30 = .ok (.getfield 45, 3) := by decide +kernel
theorem dX9_fine_33 : decode cX9_fine 33 = .ok (.iconst 1, 1) := by decide +kernel
theorem dX9_fine_34 : decode cX9_fine 34 = .ok (.aload_n 0, 1) := by decide +kernel
theorem dX9_fine_35 : decode cX9_fine 35 = .ok (.iload_n 1, 1) := by decide +kernel
theorem dX9_fine_36 : decode cX9_fine 36 = .ok (.iconst 4, 1) := by decide +kernel
theorem dX9_fine_37 : decode cX9_fine 37 = .ok (.invokevirtual 89, 3) := by decide +kernel
theorem dX9_fine_40 : decode cX9_fine 40 = .ok (.iastore, 1) := by decide +kernel
theorem dX9_fine_41 : decode cX9_fine 41 = .ok (.iload_n 2, 1) := by decide +kernel
theorem dX9_fine_42 : decode cX9_fine 42 = .ok (.ifCond .ge 12, 3) := by decide +kernel
theorem dX9_fine_45 : decode cX9_fine 45 = .ok (.aload_n 0, 1) := by decide +kernel
theorem dX9_fine_46 : decode cX9_fine 46 = .ok (.iload_n 1, 1) := by decide +kernel
theorem dX9_fine_47 : decode cX9_fine 47 = .ok (.iconst 3, 1) := by decide +kernel
theorem dX9_fine_48 : decode cX9_fine 48 = .ok (.invokevirtual 89, 3) := by decide +kernel
theorem dX9_fine_51 : decode cX9_fine 51 = .ok (.goto 8, 3) := by decide +kernel
theorem dX9_fine_54 : decode cX9_fine 54 = .ok (.aload_n 0, 1) := by decide +kernel
theorem dX9_fine_55 : decode cX9_fine 55 = .ok (.iload_n 2, 1) := by decide +kernel
theorem dX9_fine_56 : decode cX9_fine 56 = .ok (.invokevirtual 107, 3) := by decide +kernel
theorem dX9_fine_59 : decode cX9_fine 59 = .ok (.ireturn, 1) := by decide +kernel
theorem dX9_feed_0 : decode cX9_feed 0 = .ok (.aload_n 0, 1) := by decide +kernel
theorem dX9_feed_1 : decode cX9_feed 1 = .ok (.getfield 179, 3) := by decide +kernel
theorem dX9_feed_4 : decode cX9_feed 4 = .ok (.bipush 12, 2) := by decide +kernel
theorem dX9_feed_6 : decode cX9_feed 6 = .ok (.iadd, 1) := by decide +kernel
theorem dX9_feed_7 : decode cX9_feed 7 = .ok (.bipush 96, 2) := by decide +kernel
theorem dX9_feed_9 : decode cX9_feed 9 = .ok (.if_icmp .le 6, 3) := by decide +kernel
theorem dX9_feed_12 : decode cX9_feed 12 = .ok (.ldc 84, 2) := by decide +kernel
theorem dX9_feed_14 : decode cX9_feed 14 = .ok (.ireturn, 1) := by decide +kernel
theorem dX9_feed_15 : decode cX9_feed 15 = .ok (.iconst 0, 1) := by decide +kernel
theorem dX9_feed_16 : decode cX9_feed 16 = .ok (.istore 4, 2) := by decide +kernel
theorem dX9_feed_18 : decode cX9_feed 18 = .ok (.iload 4, 2) := by decide +kernel
theorem dX9_feed_20 : decode cX9_feed 20 = .ok (.bipush 12, 2) := by decide +kernel
theorem dX9_feed_22 : decode cX9_feed 22 = .ok (.if_icmp .ge 62, 3) := by decide +kernel
theorem dX9_feed_25 : decode cX9_feed 25 = .ok (.iload 4, 2) := by decide +kernel
theorem dX9_feed_27 : decode cX9_feed 27 = .ok (.iconst 4, 1) := by decide +kernel
theorem dX9_feed_28 : decode cX9_feed 28 = .ok (.if_icmp .ge 7, 3) := by decide +kernel
theorem dX9_feed_31 : decode cX9_feed 31 = .ok (.iload_n 1, 1) := by decide +kernel
theorem dX9_feed_32 : decode cX9_feed 32 = .ok (.goto 15, 3) := by decide +kernel
theorem dX9_feed_35 : decode cX9_feed 35 = .ok (.iload 4, 2) := by decide +kernel
theorem dX9_feed_37 : decode cX9_feed 37 = .ok (.bipush 8, 2) := by decide +kernel
theorem dX9_feed_39 : decode cX9_feed 39 = .ok (.if_icmp .ge 7, 3) := by decide +kernel
theorem dX9_feed_42 : decode cX9_feed 42 = .ok (.iload_n 2, 1) := by decide +kernel
theorem dX9_feed_43 : decode cX9_feed 43 = .ok (.goto 4, 3) := by decide +kernel
theorem dX9_feed_46 : decode cX9_feed 46 = .ok (.iload_n 3, 1) := by decide +kernel
theorem dX9_feed_47 : decode cX9_feed 47 = .ok (.istore 5, 2) := by decide +kernel
theorem dX9_feed_49 : decode cX9_feed 49 = .ok (.aload_n 0, 1) := by decide +kernel
theorem dX9_feed_50 : decode cX9_feed 50 = .ok (.getfield 22, 3) := by decide +kernel
theorem dX9_feed_53 : decode cX9_feed 53 = .ok (.aload_n 0, 1) := by decide +kernel
theorem dX9_feed_54 : decode cX9_feed 54 = .ok (.getfield 179, 3) := by decide +kernel
theorem dX9_feed_57 : decode cX9_feed 57 = .ok (.iload 4, 2) := by decide +kernel
theorem dX9_feed_59 : decode cX9_feed 59 = .ok (.iadd, 1) := by decide +kernel
theorem dX9_feed_60 : decode cX9_feed 60 = .ok (.iload 5, 2) := by decide +kernel
theorem dX9_feed_62 : decode cX9_feed 62 = .ok (.bipush 24, 2) := by decide +kernel
theorem dX9_feed_64 : decode cX9_feed 64 = .ok (.bipush 8, 2) := by decide +kernel
theorem dX9_feed_66 : decode cX9_feed 66 = .ok (.iload 4, 2) := by decide +kernel
theorem dX9_feed_68 : decode cX9_feed 68 = .ok (.iconst 4, 1) := by decide +kernel
theorem dX9_feed_69 : decode cX9_feed 69 = .ok (.irem, 1) := by decide +kernel
theorem dX9_feed_70 : decode cX9_feed 70 = .ok (.imul, 1) := by decide +kernel
theorem dX9_feed_71 : decode cX9_feed 71 = .ok (.isub, 1) := by decide +kernel
theorem dX9_feed_72 : decode cX9_feed 72 = .ok (.ishr, 1) := by decide +kernel
theorem dX9_feed_73 : decode cX9_feed 73 = .ok (.sipush 255, 3) := by decide +kernel
theorem dX9_feed_76 : decode cX9_feed 76 = .ok (.iand, 1) := by decide +kernel
theorem dX9_feed_77 : decode cX9_feed 77 = .ok (.iastore, 1) := by decide +kernel
theorem dX9_feed_78 : decode cX9_feed 78 = .ok (.iinc 4 1, 3) := by decide +kernel
theorem dX9_feed_81 : decode cX9_feed 81 = .ok (.goto (-63), 3) := by decide +kernel
theorem dX9_feed_84 : decode cX9_feed 84 = .ok (.aload_n 0, 1) := by decide +kernel
theorem dX9_feed_85 : decode cX9_feed 85 = .ok (.dup, 1) := by decide +kernel
theorem dX9_feed_86 : decode cX9_feed 86 = .ok (.getfield 179, 3) := by decide +kernel
theorem dX9_feed_89 : decode cX9_feed 89 = .ok (.bipush 12, 2) := by decide +kernel
theorem dX9_feed_91 : decode cX9_feed 91 = .ok (.iadd, 1) := by decide +kernel
theorem dX9_feed_92 : decode cX9_feed 92 = .ok (.putfield 179, 3) := by decide +kernel
theorem dX9_feed_95 : decode cX9_feed 95 = .ok (.aload_n 0, 1) := by decide +kernel
theorem dX9_feed_96 : decode cX9_feed 96 = .ok (.getfield 179, 3) := by decide +kernel
theorem dX9_feed_99 : decode cX9_feed 99 = .ok (.ireturn, 1) := by decide +kernel
theorem dX9_trim_0 : decode cX9_trim 0 = .ok (.iload_n 1, 1) := by decide +kernel
theorem dX9_trim_1 : decode cX9_trim 1 = .ok (.iconst 0, 1) := by decide +kernel
theorem dX9_trim_2 : decode cX9_trim 2 = .ok (.aload_n 0, 1) := by decide +kernel
theorem dX9_trim_3 : decode cX9_trim 3 = .ok (.getfield 179, 3) := by decide +kernel
theorem dX9_trim_6 : decode cX9_trim 6 = .ok (.invokestatic 75, 3) := by decide +kernel
theorem dX9_trim_9 : decode cX9_trim 9 = .ok (.ifCond .ne 6, 3) := by decide +kernel
theorem dX9_trim_12 : decode cX9_trim 12 = .ok (.ldc 83, 2) := by decide +kernel
theorem dX9_trim_14 : decode cX9_trim 14 = .ok (.ireturn, 1) := by decide +kernel
theorem dX9_trim_15 : decode cX9_trim 15 = .ok (.aload_n 0, 1) := by decide +kernel
theorem dX9_trim_16 : decode cX9_trim 16 = .ok (.iload_n 1, 1) := by decide +kernel
theorem dX9_trim_17 : decode cX9_trim 17 = .ok (.putfield 179, 3) := by decide +kernel
theorem dX9_trim_20 : decode cX9_trim 20 = .ok (.iload_n 1, 1) := by decide +kernel
theorem dX9_trim_21 : decode cX9_trim 21 = .ok (.ireturn, 1) := by decide +kernel
theorem dX9_isLetter_0 : decode cX9_isLetter 0 = .ok (.iload_n 1, 1) := by decide +kernel
theorem dX9_isLetter_1 : decode cX9_isLetter 1 = .ok (.aload_n 0, 1) := by decide +kernel
theorem dX9_isLetter_2 : decode cX9_isLetter 2 = .ok (.getfield 179, 3) := by decide +kernel
theorem dX9_isLetter_5 : decode cX9_isLetter 5 = .ok (.if_icmp .ge 29, 3) := by decide +kernel
theorem dX9_isLetter_8 : decode cX9_isLetter 8 = .ok (.aload_n 0, 1) := by decide +kernel
theorem dX9_isLetter_9 : decode cX9_isLetter 9 = .ok (.getfield 22, 3) := by decide +kernel
theorem dX9_isLetter_12 : decode cX9_isLetter 12 = .ok (.iload_n 1, 1) := by decide +kernel
theorem dX9_isLetter_13 : decode cX9_isLetter 13 = .ok (.iaload, 1) := by decide +kernel
theorem dX9_isLetter_14 : decode cX9_isLetter 14 = .ok (.bipush 97, 2) := by decide +kernel
theorem dX9_isLetter_16 : decode cX9_isLetter 16 = .ok (.if_icmp .lt 18, 3) := by decide +kernel
theorem dX9_isLetter_19 : decode cX9_isLetter 19 = .ok (.aload_n 0, 1) := by decide +kernel
theorem dX9_isLetter_20 : decode cX9_isLetter 20 = .ok (.getfield 22, 3) := by decide +kernel
theorem dX9_isLetter_23 : decode cX9_isLetter 23 = .ok (.iload_n 1, 1) := by decide +kernel
theorem dX9_isLetter_24 : decode cX9_isLetter 24 = .ok (.iaload, 1) := by decide +kernel
theorem dX9_isLetter_25 : decode cX9_isLetter 25 = .ok (.bipush 122, 2) := by decide +kernel
theorem dX9_isLetter_27 : decode cX9_isLetter 27 = .ok (.if_icmp .gt 7, 3) := by decide +kernel
theorem dX9_isLetter_30 : decode cX9_isLetter 30 = .ok (.iconst 1, 1) := by decide +kernel
theorem dX9_isLetter_31 : decode cX9_isLetter 31 = .ok (.goto 4, 3) := by decide +kernel
theorem dX9_isLetter_34 : decode cX9_isLetter 34 = .ok (.iconst 0, 1) := by decide +kernel
theorem dX9_isLetter_35 : decode cX9_isLetter 35 = .ok (.ireturn, 1) := by decide +kernel
theorem dX9_isFigure_0 : decode cX9_isFigure 0 = .ok (.iload_n 1, 1) := by decide +kernel
theorem dX9_isFigure_1 : decode cX9_isFigure 1 = .ok (.aload_n 0, 1) := by decide +kernel
theorem dX9_isFigure_2 : decode cX9_isFigure 2 = .ok (.getfield 179, 3) := by decide +kernel
theorem dX9_isFigure_5 : decode cX9_isFigure 5 = .ok (.if_icmp .ge 29, 3) := by decide +kernel
theorem dX9_isFigure_8 : decode cX9_isFigure 8 = .ok (.aload_n 0, 1) := by decide +kernel
theorem dX9_isFigure_9 : decode cX9_isFigure 9 = .ok (.getfield 22, 3) := by decide +kernel
theorem dX9_isFigure_12 : decode cX9_isFigure 12 = .ok (.iload_n 1, 1) := by decide +kernel
theorem dX9_isFigure_13 : decode cX9_isFigure 13 = .ok (.iaload, 1) := by decide +kernel
theorem dX9_isFigure_14 : decode cX9_isFigure 14 = .ok (.bipush 48, 2) := by decide +kernel
theorem dX9_isFigure_16 : decode cX9_isFigure 16 = .ok (.if_icmp .lt 18, 3) := by decide +kernel
theorem dX9_isFigure_19 : decode cX9_isFigure 19 = .ok (.aload_n 0, 1) := by decide +kernel
theorem dX9_isFigure_20 : decode cX9_isFigure 20 = .ok (.getfield 22, 3) := by decide +kernel
theorem dX9_isFigure_23 : decode cX9_isFigure 23 = .ok (.iload_n 1, 1) := by decide +kernel
theorem dX9_isFigure_24 : decode cX9_isFigure 24 = .ok (.iaload, 1) := by decide +kernel
theorem dX9_isFigure_25 : decode cX9_isFigure 25 = .ok (.bipush 57, 2) := by decide +kernel
theorem dX9_isFigure_27 : decode cX9_isFigure 27 = .ok (.if_icmp .gt 7, 3) := by decide +kernel
theorem dX9_isFigure_30 : decode cX9_isFigure 30 = .ok (.iconst 1, 1) := by decide +kernel
theorem dX9_isFigure_31 : decode cX9_isFigure 31 = .ok (.goto 4, 3) := by decide +kernel
theorem dX9_isFigure_34 : decode cX9_isFigure 34 = .ok (.iconst 0, 1) := by decide +kernel
theorem dX9_isFigure_35 : decode cX9_isFigure 35 = .ok (.ireturn, 1) := by decide +kernel
theorem dX9_go_0 : decode cX9_go 0 = .ok (.aload_n 0, 1) := by decide +kernel
theorem dX9_go_1 : decode cX9_go 1 = .ok (.getfield 183, 3) := by decide +kernel
theorem dX9_go_4 : decode cX9_go 4 = .ok (.aload_n 0, 1) := by decide +kernel
theorem dX9_go_5 : decode cX9_go 5 = .ok (.getfield 179, 3) := by decide +kernel
theorem dX9_go_8 : decode cX9_go 8 = .ok (.if_icmp .ge 30, 3) := by decide +kernel
theorem dX9_go_11 : decode cX9_go 11 = .ok (.aload_n 0, 1) := by decide +kernel
theorem dX9_go_12 : decode cX9_go 12 = .ok (.getfield 22, 3) := by decide +kernel
theorem dX9_go_15 : decode cX9_go 15 = .ok (.aload_n 0, 1) := by decide +kernel
theorem dX9_go_16 : decode cX9_go 16 = .ok (.getfield 183, 3) := by decide +kernel
theorem dX9_go_19 : decode cX9_go 19 = .ok (.iaload, 1) := by decide +kernel
theorem dX9_go_20 : decode cX9_go 20 = .ok (.bipush 32, 2) := by decide +kernel
theorem dX9_go_22 : decode cX9_go 22 = .ok (.if_icmp .ne 16, 3) := by decide +kernel
theorem dX9_go_25 : decode cX9_go 25 = .ok (.aload_n 0, 1) := by decide +kernel
theorem dX9_go_26 : decode cX9_go 26 = .ok (.dup, 1) := by decide +kernel
theorem dX9_go_27 : decode cX9_go 27 = .ok (.getfield 183, 3) := by decide +kernel
theorem dX9_go_30 : decode cX9_go 30 = .ok (.iconst 1, 1) := by decide +kernel
theorem dX9_go_31 : decode cX9_go 31 = .ok (.iadd, 1) := by decide +kernel
theorem dX9_go_32 : decode cX9_go 32 = .ok (.putfield 183, 3) := by decide +kernel
theorem dX9_go_35 : decode cX9_go 35 = .ok (.goto (-35), 3) := by decide +kernel
theorem dX9_go_38 : decode cX9_go 38 = .ok (.aload_n 0, 1) := by decide +kernel
theorem dX9_go_39 : decode cX9_go 39 = .ok (.aload_n 0, 1) := by decide +kernel
theorem dX9_go_40 : decode cX9_go 40 = .ok (.getfield 183, 3) := by decide +kernel
theorem dX9_go_43 : decode cX9_go 43 = .ok (.putfield 186, 3) := by decide +kernel
theorem dX9_go_46 : decode cX9_go 46 = .ok (.aload_n 0, 1) := by decide +kernel
theorem dX9_go_47 : decode cX9_go 47 = .ok (.getfield 186, 3) := by decide +kernel
theorem dX9_go_50 : decode cX9_go 50 = .ok (.aload_n 0, 1) := by decide +kernel
theorem dX9_go_51 : decode cX9_go 51 = .ok (.getfield 189, 3) := by decide +kernel
theorem dX9_go_54 : decode cX9_go 54 = .ok (.if_icmp .ne 7, 3) := by decide +kernel
theorem dX9_go_57 : decode cX9_go 57 = .ok (.iconst 1, 1) := by decide +kernel
theorem dX9_go_58 : decode cX9_go 58 = .ok (.goto 4, 3) := by decide +kernel
theorem dX9_go_61 : decode cX9_go 61 = .ok (.iconst 0, 1) := by decide +kernel
theorem dX9_go_62 : decode cX9_go 62 = .ok (.istore_n 1, 1) := by decide +kernel
theorem dX9_go_63 : decode cX9_go 63 = .ok (.aload_n 0, 1) := by decide +kernel
theorem dX9_go_64 : decode cX9_go 64 = .ok (.getfield 186, 3) := by decide +kernel
theorem dX9_go_67 : decode cX9_go 67 = .ok (.aload_n 0, 1) := by decide +kernel
theorem dX9_go_68 : decode cX9_go 68 = .ok (.getfield 179, 3) := by decide +kernel
theorem dX9_go_71 : decode cX9_go 71 = .ok (.if_icmp .ne 11, 3) := by decide +kernel
theorem dX9_go_74 : decode cX9_go 74 = .ok (.aload_n 0, 1) := by decide +kernel
theorem dX9_go_75 : decode cX9_go 75 = .ok (.iconst 0, 1) := by decide +kernel
theorem dX9_go_76 : decode cX9_go 76 = .ok (.putfield 192, 3) := by decide +kernel
theorem dX9_go_79 : decode cX9_go 79 = .ok (.goto 224, 3) := by decide +kernel
theorem dX9_go_82 : decode cX9_go 82 = .ok (.aload_n 0, 1) := by decide +kernel
theorem dX9_go_83 : decode cX9_go 83 = .ok (.aload_n 0, 1) := by decide +kernel
theorem dX9_go_84 : decode cX9_go 84 = .ok (.getfield 186, 3) := by decide +kernel
theorem dX9_go_87 : decode cX9_go 87 = .ok (.invokevirtual 195, 3) := by decide +kernel
theorem dX9_go_90 : decode cX9_go 90 = .ok (.ifCond .eq 64, 3) := by decide +kernel
theorem dX9_go_93 : decode cX9_go 93 = .ok (.aload_n 0, 1) := by decide +kernel
theorem dX9_go_94 : decode cX9_go 94 = .ok (.aload_n 0, 1) := by decide +kernel
theorem dX9_go_95 : decode cX9_go 95 = .ok (.getfield 183, 3) := by decide +kernel
theorem dX9_go_98 : decode cX9_go 98 = .ok (.invokevirtual 195, 3) := by decide +kernel
theorem dX9_go_101 : decode cX9_go 101 = .ok (.ifCond .eq 16, 3) := by decide +kernel
theorem dX9_go_104 : decode cX9_go 104 = .ok (.aload_n 0, 1) := by decide +kernel
theorem dX9_go_105 : decode cX9_go 105 = .ok (.dup, 1) := by decide +kernel
theorem dX9_go_106 : decode cX9_go 106 = .ok (.getfield 183, 3) := by decide +kernel
theorem dX9_go_109 : decode cX9_go 109 = .ok (.iconst 1, 1) := by decide +kernel
theorem dX9_go_110 : decode cX9_go 110 = .ok (.iadd, 1) := by decide +kernel
theorem dX9_go_111 : decode cX9_go 111 = .ok (.putfield 183, 3) := by decide +kernel
theorem dX9_go_114 : decode cX9_go 114 = .ok (.goto (-21), 3) := by decide +kernel
theorem dX9_go_117 : decode cX9_go 117 = .ok (.aload_n 0, 1) := by decide +kernel
theorem dX9_go_118 : decode cX9_go 118 = .ok (.iload_n 1, 1) := by decide +kernel
theorem dX9_go_119 : decode cX9_go 119 = .ok (.ifCond .eq 7, 3) := by decide +kernel
theorem dX9_go_122 : decode cX9_go 122 = .ok (.iconst 4, 1) := by decide +kernel
theorem dX9_go_123 : decode cX9_go 123 = .ok (.goto 4, 3) := by decide +kernel
theorem dX9_go_126 : decode cX9_go 126 = .ok (.iconst 1, 1) := by decide +kernel
theorem dX9_go_127 : decode cX9_go 127 = .ok (.putfield 192, 3) := by decide +kernel
theorem dX9_go_130 : decode cX9_go 130 = .ok (.aload_n 0, 1) := by decide +kernel
theorem dX9_go_131 : decode cX9_go 131 = .ok (.aload_n 0, 1) := by decide +kernel
theorem dX9_go_132 : decode cX9_go 132 = .ok (.getfield 22, 3) := by decide +kernel
theorem dX9_go_135 : decode cX9_go 135 = .ok (.aload_n 0, 1) := by decide +kernel
theorem dX9_go_136 : decode cX9_go 136 = .ok (.getfield 186, 3) := by decide +kernel
theorem dX9_go_139 : decode cX9_go 139 = .ok (.iaload, 1) := by decide +kernel
theorem dX9_go_140 : decode cX9_go 140 = .ok (.putfield 198, 3) := by decide +kernel
theorem dX9_go_143 : decode cX9_go 143 = .ok (.aload_n 0, 1) := by decide +kernel
theorem dX9_go_144 : decode cX9_go 144 = .ok (.aload_n 0, 1) := by decide +kernel
theorem dX9_go_145 : decode cX9_go 145 = .ok (.getfield 183, 3) := by decide +kernel
theorem dX9_go_148 : decode cX9_go 148 = .ok (.putfield 189, 3) := by decide +kernel
theorem dX9_go_151 : decode cX9_go 151 = .ok (.goto 152, 3) := by decide +kernel
theorem dX9_go_154 : decode cX9_go 154 = .ok (.aload_n 0, 1) := by decide +kernel
theorem dX9_go_155 : decode cX9_go 155 = .ok (.aload_n 0, 1) := by decide +kernel
theorem dX9_go_156 : decode cX9_go 156 = .ok (.getfield 186, 3) := by decide +kernel
theorem dX9_go_159 : decode cX9_go 159 = .ok (.invokevirtual 201, 3) := by decide +kernel
theorem dX9_go_162 : decode cX9_go 162 = .ok (.ifCond .eq 113, 3) := by decide +kernel
theorem dX9_go_165 : decode cX9_go 165 = .ok (.aload_n 0, 1) := by decide +kernel
theorem dX9_go_166 : decode cX9_go 166 = .ok (.iconst 0, 1) := by decide +kernel
theorem dX9_go_167 : decode cX9_go 167 = .ok (.putfield 198, 3) := by decide +kernel
theorem dX9_go_170 : decode cX9_go 170 = .ok (.aload_n 0, 1) := by decide +kernel
theorem dX9_go_171 : decode cX9_go 171 = .ok (.aload_n 0, 1) := by decide +kernel
theorem dX9_go_172 : decode cX9_go 172 = .ok (.getfield 183, 3) := by decide +kernel
theorem dX9_go_175 : decode cX9_go 175 = .ok (.invokevirtual 201, 3) := by decide +kernel
theorem dX9_go_178 : decode cX9_go 178 = .ok (.ifCond .eq 60, 3) := by decide +kernel
theorem dX9_go_181 : decode cX9_go 181 = .ok (.aload_n 0, 1) := by decide +kernel
theorem dX9_go_182 : decode cX9_go 182 = .ok (.aload_n 0, 1) := by decide +kernel
theorem dX9_go_183 : decode cX9_go 183 = .ok (.getfield 183, 3) := by decide +kernel
theorem dX9_go_186 : decode cX9_go 186 = .ok (.aload_n 0, 1) := by decide +kernel
theorem dX9_go_187 : decode cX9_go 187 = .ok (.getfield 186, 3) := by decide +kernel
theorem dX9_go_190 : decode cX9_go 190 = .ok (.isub, 1) := by decide +kernel
theorem dX9_go_191 : decode cX9_go 191 = .ok (.iconst 4, 1) := by decide +kernel
theorem dX9_go_192 : decode cX9_go 192 = .ok (.if_icmp .ge 26, 3) := by decide +kernel
theorem dX9_go_195 : decode cX9_go 195 = .ok (.bipush 10, 2) := by decide +kernel
theorem dX9_go_197 : decode cX9_go 197 = .ok (.aload_n 0, 1) := by decide +kernel
theorem dX9_go_198 : decode cX9_go 198 = .ok (.getfield 198, 3) := by decide +kernel
theorem dX9_go_201 : decode cX9_go 201 = .ok (.imul, 1) := by decide +kernel
theorem dX9_go_202 : decode cX9_go 202 = .ok (.aload_n 0, 1) := by decide +kernel
theorem dX9_go_203 : decode cX9_go 203 = .ok (.getfield 22, 3) := by decide +kernel
theorem dX9_go_206 : decode cX9_go 206 = .ok (.aload_n 0, 1) := by decide +kernel
theorem dX9_go_207 : decode cX9_go 207 = .ok (.getfield 183, 3) := by decide +kernel
theorem dX9_go_210 : decode cX9_go 210 = .ok (.iaload, 1) := by decide +kernel
theorem dX9_go_211 : decode cX9_go 211 = .ok (.iadd, 1) := by decide +kernel
theorem dX9_go_212 : decode cX9_go 212 = .ok (.bipush 48, 2) := by decide +kernel
theorem dX9_go_214 : decode cX9_go 214 = .ok (.isub, 1) := by decide +kernel
theorem dX9_go_215 : decode cX9_go 215 = .ok (.goto 7, 3) := by decide +kernel
theorem dX9_go_218 : decode cX9_go 218 = .ok (.aload_n 0, 1) := by decide +kernel
theorem dX9_go_219 : decode cX9_go 219 = .ok (.getfield 198, 3) := by decide +kernel
theorem dX9_go_222 : decode cX9_go 222 = .ok (.putfield 198, 3) := by decide +kernel
theorem dX9_go_225 : decode cX9_go 225 = .ok (.aload_n 0, 1) := by decide +kernel
theorem dX9_go_226 : decode cX9_go 226 = .ok (.dup, 1) := by decide +kernel
theorem dX9_go_227 : decode cX9_go 227 = .ok (.getfield 183, 3) := by decide +kernel
theorem dX9_go_230 : decode cX9_go 230 = .ok (.iconst 1, 1) := by decide +kernel
theorem dX9_go_231 : decode cX9_go 231 = .ok (.iadd, 1) := by decide +kernel
theorem dX9_go_232 : decode cX9_go 232 = .ok (.putfield 183, 3) := by decide +kernel
theorem dX9_go_235 : decode cX9_go 235 = .ok (.goto (-65), 3) := by decide +kernel
theorem dX9_go_238 : decode cX9_go 238 = .ok (.aload_n 0, 1) := by decide +kernel
theorem dX9_go_239 : decode cX9_go 239 = .ok (.iload_n 1, 1) := by decide +kernel
theorem dX9_go_240 : decode cX9_go 240 = .ok (.ifCond .ne 16, 3) := by decide +kernel
theorem dX9_go_243 : decode cX9_go 243 = .ok (.aload_n 0, 1) := by decide +kernel
theorem dX9_go_244 : decode cX9_go 244 = .ok (.getfield 183, 3) := by decide +kernel
theorem dX9_go_247 : decode cX9_go 247 = .ok (.aload_n 0, 1) := by decide +kernel
theorem dX9_go_248 : decode cX9_go 248 = .ok (.getfield 186, 3) := by decide +kernel
theorem dX9_go_251 : decode cX9_go 251 = .ok (.isub, 1) := by decide +kernel
theorem dX9_go_252 : decode cX9_go 252 = .ok (.iconst 4, 1) := by decide +kernel
theorem dX9_go_253 : decode cX9_go 253 = .ok (.if_icmp .le 7, 3) := by decide +kernel
theorem dX9_go_256 : decode cX9_go 256 = .ok (.iconst 4, 1) := by decide +kernel
theorem dX9_go_257 : decode cX9_go 257 = .ok (.goto 4, 3) := by decide +kernel
theorem dX9_go_260 : decode cX9_go 260 = .ok (.iconst 2, 1) := by decide +kernel
theorem dX9_go_261 : decode cX9_go 261 = .ok (.putfield 192, 3) := by decide +kernel
theorem dX9_go_264 : decode cX9_go 264 = .ok (.aload_n 0, 1) := by decide +kernel
theorem dX9_go_265 : decode cX9_go 265 = .ok (.aload_n 0, 1) := by decide +kernel
theorem dX9_go_266 : decode cX9_go 266 = .ok (.getfield 183, 3) := by decide +kernel
theorem dX9_go_269 : decode cX9_go 269 = .ok (.putfield 189, 3) := by decide +kernel
theorem dX9_go_272 : decode cX9_go 272 = .ok (.goto 31, 3) := by decide +kernel
theorem dX9_go_275 : decode cX9_go 275 = .ok (.aload_n 0, 1) := by decide +kernel
theorem dX9_go_276 : decode cX9_go 276 = .ok (.iconst 3, 1) := by decide +kernel
theorem dX9_go_277 : decode cX9_go 277 = .ok (.putfield 192, 3) := by decide +kernel
theorem dX9_go_280 : decode cX9_go 280 = .ok (.aload_n 0, 1) := by decide +kernel
theorem dX9_go_281 : decode cX9_go 281 = .ok (.aload_n 0, 1) := by decide +kernel
theorem dX9_go_282 : decode cX9_go 282 = .ok (.getfield 22, 3) := by decide +kernel
theorem dX9_go_285 : decode cX9_go 285 = .ok (.aload_n 0, 1) := by decide +kernel
theorem dX9_go_286 : decode cX9_go 286 = .ok (.getfield 186, 3) := by decide +kernel
theorem dX9_go_289 : decode cX9_go 289 = .ok (.iaload, 1) := by decide +kernel
theorem dX9_go_290 : decode cX9_go 290 = .ok (.putfield 198, 3) := by decide +kernel
theorem dX9_go_293 : decode cX9_go 293 = .ok (.aload_n 0, 1) := by decide +kernel
theorem dX9_go_294 : decode cX9_go 294 = .ok (.dup, 1) := by decide +kernel
theorem dX9_go_295 : decode cX9_go 295 = .ok (.getfield 183, 3) := by decide +kernel
theorem dX9_go_298 : decode cX9_go 298 = .ok (.iconst 1, 1) := by decide +kernel
theorem dX9_go_299 : decode cX9_go 299 = .ok (.iadd, 1) := by decide +kernel
theorem dX9_go_300 : decode cX9_go 300 = .ok (.putfield 183, 3) := by decide +kernel
theorem dX9_go_303 : decode cX9_go 303 = .ok (.return_, 1) := by decide +kernel
theorem dX9_takesKey_0 : decode cX9_takesKey 0 = .ok (.aload_n 0, 1) := by decide +kernel
theorem dX9_takesKey_1 : decode cX9_takesKey 1 = .ok (.getfield 192, 3) := by decide +kernel
theorem dX9_takesKey_4 : decode cX9_takesKey 4 = .ok (.iconst 1, 1) := by decide +kernel
theorem dX9_takesKey_5 : decode cX9_takesKey 5 = .ok (.if_icmp .eq 5, 3) := by decide +kernel
theorem dX9_takesKey_8 : decode cX9_takesKey 8 = .ok (.iconst 0, 1) := by decide +kernel
theorem dX9_takesKey_9 : decode cX9_takesKey 9 = .ok (.ireturn, 1) := by decide +kernel
theorem dX9_takesKey_10 : decode cX9_takesKey 10 = .ok (.iconst 0, 1) := by decide +kernel
theorem dX9_takesKey_11 : decode cX9_takesKey 11 = .ok (.istore_n 1, 1) := by decide +kernel
theorem dX9_takesKey_12 : decode cX9_takesKey 12 = .ok (.iload_n 1, 1) := by decide +kernel
theorem dX9_takesKey_13 : decode cX9_takesKey 13 = .ok (.iconst 3, 1) := by decide +kernel
theorem dX9_takesKey_14 : decode cX9_takesKey 14 = .ok (.if_icmp .ge 113, 3) := by decide +kernel
theorem dX9_takesKey_17 : decode cX9_takesKey 17 = .ok (.aload_n 0, 1) := by decide +kernel
theorem dX9_takesKey_18 : decode cX9_takesKey 18 = .ok (.getfield 29, 3) := by decide +kernel
theorem dX9_takesKey_21 : decode cX9_takesKey 21 = .ok (.iload_n 1, 1) := by decide +kernel
theorem dX9_takesKey_22 : decode cX9_takesKey 22 = .ok (.iconst 1, 1) := by decide +kernel
theorem dX9_takesKey_23 : decode cX9_takesKey 23 = .ok (.iadd, 1) := by decide +kernel
theorem dX9_takesKey_24 : decode cX9_takesKey 24 = .ok (.iaload, 1) := by decide +kernel
theorem dX9_takesKey_25 : decode cX9_takesKey 25 = .ok (.aload_n 0, 1) := by decide +kernel
theorem dX9_takesKey_26 : decode cX9_takesKey 26 = .ok (.getfield 29, 3) := by decide +kernel
theorem dX9_takesKey_29 : decode cX9_takesKey 29 = .ok (.iload_n 1, 1) := by decide +kernel
theorem dX9_takesKey_30 : decode cX9_takesKey 30 = .ok (.iaload, 1) := by decide +kernel
theorem dX9_takesKey_31 : decode cX9_takesKey 31 = .ok (.isub, 1) := by decide +kernel
theorem dX9_takesKey_32 : decode cX9_takesKey 32 = .ok (.istore_n 2, 1) := by decide +kernel
theorem dX9_takesKey_33 : decode cX9_takesKey 33 = .ok (.iload_n 2, 1) := by decide +kernel
theorem dX9_takesKey_34 : decode cX9_takesKey 34 = .ok (.aload_n 0, 1) := by decide +kernel
theorem dX9_takesKey_35 : decode cX9_takesKey 35 = .ok (.getfield 183, 3) := by decide +kernel
theorem dX9_takesKey_38 : decode cX9_takesKey 38 = .ok (.aload_n 0, 1) := by decide +kernel
theorem dX9_takesKey_39 : decode cX9_takesKey 39 = .ok (.getfield 186, 3) := by decide +kernel
theorem dX9_takesKey_42 : decode cX9_takesKey 42 = .ok (.isub, 1) := by decide +kernel
theorem dX9_takesKey_43 : decode cX9_takesKey 43 = .ok (.if_icmp .ne 7, 3) := by decide +kernel
theorem dX9_takesKey_46 : decode cX9_takesKey 46 = .ok (.iconst 1, 1) := by decide +kernel
theorem dX9_takesKey_47 : decode cX9_takesKey 47 = .ok (.goto 4, 3) := by decide +kernel
theorem dX9_takesKey_50 : decode cX9_takesKey 50 = .ok (.iconst 0, 1) := by decide +kernel
theorem dX9_takesKey_51 : decode cX9_takesKey 51 = .ok (.istore_n 3, 1) := by decide +kernel
theorem dX9_takesKey_52 : decode cX9_takesKey 52 = .ok (.iconst 0, 1) := by decide +kernel
theorem dX9_takesKey_53 : decode cX9_takesKey 53 = .ok (.istore 4, 2) := by decide +kernel
theorem dX9_takesKey_55 : decode cX9_takesKey 55 = .ok (.iload 4, 2) := by decide +kernel
theorem dX9_takesKey_57 : decode cX9_takesKey 57 = .ok (.iload_n 2, 1) := by decide +kernel
theorem dX9_takesKey_58 : decode cX9_takesKey 58 = .ok (.if_icmp .ge 48, 3) := by decide +kernel
theorem dX9_takesKey_61 : decode cX9_takesKey 61 = .ok (.iload_n 3, 1) := by decide +kernel
theorem dX9_takesKey_62 : decode cX9_takesKey 62 = .ok (.ifCond .eq 44, 3) := by decide +kernel
theorem dX9_takesKey_65 : decode cX9_takesKey 65 = .ok (.aload_n 0, 1) := by decide +kernel
theorem dX9_takesKey_66 : decode cX9_takesKey 66 = .ok (.getfield 22, 3) := by decide +kernel
theorem dX9_takesKey_69 : decode cX9_takesKey 69 = .ok (.aload_n 0, 1) := by decide +kernel
theorem dX9_takesKey_70 : decode cX9_takesKey 70 = .ok (.getfield 186, 3) := by decide +kernel
theorem dX9_takesKey_73 : decode cX9_takesKey 73 = .ok (.iload 4, 2) := by decide +kernel
theorem dX9_takesKey_75 : decode cX9_takesKey 75 = .ok (.iadd, 1) := by decide +kernel
theorem dX9_takesKey_76 : decode cX9_takesKey 76 = .ok (.iaload, 1) := by decide +kernel
theorem dX9_takesKey_77 : decode cX9_takesKey 77 = .ok (.aload_n 0, 1) := by decide +kernel
theorem dX9_takesKey_78 : decode cX9_takesKey 78 = .ok (.getfield 25, 3) := by decide +kernel
theorem dX9_takesKey_81 : decode cX9_takesKey 81 = .ok (.aload_n 0, 1) := by decide +kernel
theorem dX9_takesKey_82 : decode cX9_takesKey 82 = .ok (.getfield 29, 3) := by decide +kernel
theorem dX9_takesKey_85 : decode cX9_takesKey 85 = .ok (.iload_n 1, 1) := by decide +kernel
theorem dX9_takesKey_86 : decode cX9_takesKey 86 = .ok (.iaload, 1) := by decide +kernel
theorem dX9_takesKey_87 : decode cX9_takesKey 87 = .ok (.iload 4, 2) := by decide +kernel
theorem dX9_takesKey_89 : decode cX9_takesKey 89 = .ok (.iadd, 1) := by decide +kernel
theorem dX9_takesKey_90 : decode cX9_takesKey 90 = .ok (.caload, 1) := by decide +kernel
theorem dX9_takesKey_91 : decode cX9_takesKey 91 = .ok (.if_icmp .ne 7, 3) := by decide +kernel
theorem dX9_takesKey_94 : decode cX9_takesKey 94 = .ok (.iconst 1, 1) := by decide +kernel
theorem dX9_takesKey_95 : decode cX9_takesKey 95 = .ok (.goto 4, 3) := by decide +kernel
theorem dX9_takesKey_98 : decode cX9_takesKey 98 = .ok (.iconst 0, 1) := by decide +kernel
theorem dX9_takesKey_99 : decode cX9_takesKey 99 = .ok (.istore_n 3, 1) := by decide +kernel
theorem dX9_takesKey_100 : decode cX9_takesKey 100 = .ok (.iinc 4 1, 3) := by decide +kernel
theorem dX9_takesKey_103 : decode cX9_takesKey 103 = .ok (.goto (-48), 3) := by decide +kernel
theorem dX9_takesKey_106 : decode cX9_takesKey 106 = .ok (.iload_n 3, 1) := by decide +kernel
theorem dX9_takesKey_107 : decode cX9_takesKey 107 = .ok (.ifCond .eq 14, 3) := by decide +kernel
theorem dX9_takesKey_110 : decode cX9_takesKey 110 = .ok (.aload_n 0, 1) := by decide +kernel
theorem dX9_takesKey_111 : decode cX9_takesKey 111 = .ok (.iload_n 1, 1) := by decide +kernel
theorem dX9_takesKey_112 : decode cX9_takesKey 112 = .ok (.putfield 204, 3) := by decide +kernel
theorem dX9_takesKey_115 : decode cX9_takesKey 115 = .ok (.aload_n 0, 1) := by decide +kernel
theorem dX9_takesKey_116 : decode cX9_takesKey 116 = .ok (.invokevirtual 207, 3) := by decide +kernel
theorem dX9_takesKey_119 : decode cX9_takesKey 119 = .ok (.iconst 1, 1) := by decide +kernel
theorem dX9_takesKey_120 : decode cX9_takesKey 120 = .ok (.ireturn, 1) := by decide +kernel
theorem dX9_takesKey_121 : decode cX9_takesKey 121 = .ok (.iinc 1 1, 3) := by decide +kernel
theorem dX9_takesKey_124 : decode cX9_takesKey 124 = .ok (.goto (-112), 3) := by decide +kernel
theorem dX9_takesKey_127 : decode cX9_takesKey 127 = .ok (.iconst 0, 1) := by decide +kernel
theorem dX9_takesKey_128 : decode cX9_takesKey 128 = .ok (.ireturn, 1) := by decide +kernel
theorem dX9_nameOf_0 : decode cX9_nameOf 0 = .ok (.aload_n 0, 1) := by decide +kernel
theorem dX9_nameOf_1 : decode cX9_nameOf 1 = .ok (.getfield 204, 3) := by decide +kernel
theorem dX9_nameOf_4 : decode cX9_nameOf 4 = .ok (.lookupswitch 82 #[(0, 28), (1, 60)], 28) := by decide +kernel
theorem dX9_nameOf_32 : decode cX9_nameOf 32 = .ok (.iload_n 1, 1) := by decide +kernel
theorem dX9_nameOf_33 : decode cX9_nameOf 33 = .ok (.bipush 99, 2) := by decide +kernel
theorem dX9_nameOf_35 : decode cX9_nameOf 35 = .ok (.if_icmp .ne 7, 3) := by decide +kernel
theorem dX9_nameOf_38 : decode cX9_nameOf 38 = .ok (.iconst 0, 1) := by decide +kernel
theorem dX9_nameOf_39 : decode cX9_nameOf 39 = .ok (.goto 24, 3) := by decide +kernel
theorem dX9_nameOf_42 : decode cX9_nameOf 42 = .ok (.iload_n 1, 1) := by decide +kernel
theorem dX9_nameOf_43 : decode cX9_nameOf 43 = .ok (.bipush 103, 2) := by decide +kernel
theorem dX9_nameOf_45 : decode cX9_nameOf 45 = .ok (.if_icmp .ne 7, 3) := by decide +kernel
theorem dX9_nameOf_48 : decode cX9_nameOf 48 = .ok (.iconst 1, 1) := by decide +kernel
theorem dX9_nameOf_49 : decode cX9_nameOf 49 = .ok (.goto 14, 3) := by decide +kernel
theorem dX9_nameOf_52 : decode cX9_nameOf 52 = .ok (.iload_n 1, 1) := by decide +kernel
theorem dX9_nameOf_53 : decode cX9_nameOf 53 = .ok (.bipush 115, 2) := by decide +kernel
theorem dX9_nameOf_55 : decode cX9_nameOf 55 = .ok (.if_icmp .ne 7, 3) := by decide +kernel
theorem dX9_nameOf_58 : decode cX9_nameOf 58 = .ok (.iconst 2, 1) := by decide +kernel
theorem dX9_nameOf_59 : decode cX9_nameOf 59 = .ok (.goto 4, 3) := by decide +kernel
theorem dX9_nameOf_62 : decode cX9_nameOf 62 = .ok (.iconst (-1), 1) := by decide +kernel
theorem dX9_nameOf_63 : decode cX9_nameOf 63 = .ok (.ireturn, 1) := by decide +kernel
theorem dX9_nameOf_64 : decode cX9_nameOf 64 = .ok (.iload_n 1, 1) := by decide +kernel
theorem dX9_nameOf_65 : decode cX9_nameOf 65 = .ok (.bipush 99, 2) := by decide +kernel
theorem dX9_nameOf_67 : decode cX9_nameOf 67 = .ok (.if_icmp .ne 7, 3) := by decide +kernel
theorem dX9_nameOf_70 : decode cX9_nameOf 70 = .ok (.iconst 0, 1) := by decide +kernel
theorem dX9_nameOf_71 : decode cX9_nameOf 71 = .ok (.goto 14, 3) := by decide +kernel
theorem dX9_nameOf_74 : decode cX9_nameOf 74 = .ok (.iload_n 1, 1) := by decide +kernel
theorem dX9_nameOf_75 : decode cX9_nameOf 75 = .ok (.bipush 104, 2) := by decide +kernel
theorem dX9_nameOf_77 : decode cX9_nameOf 77 = .ok (.if_icmp .ne 7, 3) := by decide +kernel
theorem dX9_nameOf_80 : decode cX9_nameOf 80 = .ok (.iconst 1, 1) := by decide +kernel
theorem dX9_nameOf_81 : decode cX9_nameOf 81 = .ok (.goto 4, 3) := by decide +kernel
theorem dX9_nameOf_84 : decode cX9_nameOf 84 = .ok (.iconst (-1), 1) := by decide +kernel
theorem dX9_nameOf_85 : decode cX9_nameOf 85 = .ok (.ireturn, 1) := by decide +kernel
theorem dX9_nameOf_86 : decode cX9_nameOf 86 = .ok (.iload_n 1, 1) := by decide +kernel
theorem dX9_nameOf_87 : decode cX9_nameOf 87 = .ok (.bipush 112, 2) := by decide +kernel
theorem dX9_nameOf_89 : decode cX9_nameOf 89 = .ok (.if_icmp .ne 7, 3) := by decide +kernel
theorem dX9_nameOf_92 : decode cX9_nameOf 92 = .ok (.iconst 0, 1) := by decide +kernel
theorem dX9_nameOf_93 : decode cX9_nameOf 93 = .ok (.goto 14, 3) := by decide +kernel
theorem dX9_nameOf_96 : decode cX9_nameOf 96 = .ok (.iload_n 1, 1) := by decide +kernel
theorem dX9_nameOf_97 : decode cX9_nameOf 97 = .ok (.bipush 104, 2) := by decide +kernel
theorem dX9_nameOf_99 : decode cX9_nameOf 99 = .ok (.if_icmp .ne 7, 3) := by decide +kernel
theorem dX9_nameOf_102 : decode cX9_nameOf 102 = .ok (.iconst 1, 1) := by decide +kernel
theorem dX9_nameOf_103 : decode cX9_nameOf 103 = .ok (.goto 4, 3) := by decide +kernel
theorem dX9_nameOf_106 : decode cX9_nameOf 106 = .ok (.iconst (-1), 1) := by decide +kernel
theorem dX9_nameOf_107 : decode cX9_nameOf 107 = .ok (.ireturn, 1) := by decide +kernel
theorem dX9_rank_0 : decode cX9_rank 0 = .ok (.iload_n 0, 1) := by decide +kernel
theorem dX9_rank_1 : decode cX9_rank 1 = .ok (.iconst (-1), 1) := by decide +kernel
theorem dX9_rank_2 : decode cX9_rank 2 = .ok (.if_icmp .ne 7, 3) := by decide +kernel
theorem dX9_rank_5 : decode cX9_rank 5 = .ok (.iconst 1, 1) := by decide +kernel
theorem dX9_rank_6 : decode cX9_rank 6 = .ok (.goto 45, 3) := by decide +kernel
theorem dX9_rank_9 : decode cX9_rank 9 = .ok (.iload_n 0, 1) := by decide +kernel
theorem dX9_rank_10 : decode cX9_rank 10 = .ok (.bipush (-2), 2) := by decide +kernel
theorem dX9_rank_12 : decode cX9_rank 12 = .ok (.if_icmp .ne 7, 3) := by decide +kernel
theorem dX9_rank_15 : decode cX9_rank 15 = .ok (.iconst 2, 1) := by decide +kernel
theorem dX9_rank_16 : decode cX9_rank 16 = .ok (.goto 35, 3) := by decide +kernel
theorem dX9_rank_19 : decode cX9_rank 19 = .ok (.iload_n 0, 1) := by decide +kernel
theorem dX9_rank_20 : decode cX9_rank 20 = .ok (.bipush (-5), 2) := by decide +kernel
theorem dX9_rank_22 : decode cX9_rank 22 = .ok (.if_icmp .lt 7, 3) := by decide +kernel
theorem dX9_rank_25 : decode cX9_rank 25 = .ok (.iconst 3, 1) := by decide +kernel
theorem dX9_rank_26 : decode cX9_rank 26 = .ok (.goto 25, 3) := by decide +kernel
theorem dX9_rank_29 : decode cX9_rank 29 = .ok (.iload_n 0, 1) := by decide +kernel
theorem dX9_rank_30 : decode cX9_rank 30 = .ok (.bipush (-7), 2) := by decide +kernel
theorem dX9_rank_32 : decode cX9_rank 32 = .ok (.if_icmp .lt 7, 3) := by decide +kernel
theorem dX9_rank_35 : decode cX9_rank 35 = .ok (.iconst 4, 1) := by decide +kernel
theorem dX9_rank_36 : decode cX9_rank 36 = .ok (.goto 15, 3) := by decide +kernel
theorem dX9_rank_39 : decode cX9_rank 39 = .ok (.iload_n 0, 1) := by decide +kernel
theorem dX9_rank_40 : decode cX9_rank 40 = .ok (.bipush (-9), 2) := by decide +kernel
theorem dX9_rank_42 : decode cX9_rank 42 = .ok (.if_icmp .lt 7, 3) := by decide +kernel
theorem dX9_rank_45 : decode cX9_rank 45 = .ok (.iconst 5, 1) := by decide +kernel
theorem dX9_rank_46 : decode cX9_rank 46 = .ok (.goto 5, 3) := by decide +kernel
theorem dX9_rank_49 : decode cX9_rank 49 = .ok (.bipush 6, 2) := by decide +kernel
theorem dX9_rank_51 : decode cX9_rank 51 = .ok (.ireturn, 1) := by decide +kernel
theorem dX9_settle_0 : decode cX9_settle 0 = .ok (.aload_n 0, 1) := by decide +kernel
theorem dX9_settle_1 : decode cX9_settle 1 = .ok (.getfield 210, 3) := by decide +kernel
theorem dX9_settle_4 : decode cX9_settle 4 = .ok (.ifCond .le 78, 3) := by decide +kernel
theorem dX9_settle_7 : decode cX9_settle 7 = .ok (.aload_n 0, 1) := by decide +kernel
theorem dX9_settle_8 : decode cX9_settle 8 = .ok (.getfield 35, 3) := by decide +kernel
theorem dX9_settle_11 : decode cX9_settle 11 = .ok (.aload_n 0, 1) := by decide +kernel
theorem dX9_settle_12 : decode cX9_settle 12 = .ok (.getfield 210, 3) := by decide +kernel
theorem dX9_settle_15 : decode cX9_settle 15 = .ok (.iconst 1, 1) := by decide +kernel
theorem dX9_settle_16 : decode cX9_settle 16 = .ok (.isub, 1) := by decide +kernel
theorem dX9_settle_17 : decode cX9_settle 17 = .ok (.iaload, 1) := by decide +kernel
theorem dX9_settle_18 : decode cX9_settle 18 = .ok (.bipush (-11), 2) := by decide +kernel
theorem dX9_settle_20 : decode cX9_settle 20 = .ok (.if_icmp .eq 62, 3) := by decide +kernel
theorem dX9_settle_23 : decode cX9_settle 23 = .ok (.aload_n 0, 1) := by decide +kernel
theorem dX9_settle_24 : decode cX9_settle 24 = .ok (.getfield 35, 3) := by decide +kernel
theorem dX9_settle_27 : decode cX9_settle 27 = .ok (.aload_n 0, 1) := by decide +kernel
theorem dX9_settle_28 : decode cX9_settle 28 = .ok (.getfield 210, 3) := by decide +kernel
theorem dX9_settle_31 : decode cX9_settle 31 = .ok (.iconst 1, 1) := by decide +kernel
theorem dX9_settle_32 : decode cX9_settle 32 = .ok (.isub, 1) := by decide +kernel
theorem dX9_settle_33 : decode cX9_settle 33 = .ok (.iaload, 1) := by decide +kernel
theorem dX9_settle_34 : decode cX9_settle 34 = .ok (.invokestatic 213, 3) := by decide +kernel
theorem dX9_settle_37 : decode cX9_settle 37 = .ok (.iload_n 1, 1) := by decide +kernel
theorem dX9_settle_38 : decode cX9_settle 38 = .ok (.if_icmp .lt 44, 3) := by decide +kernel
theorem dX9_settle_41 : decode cX9_settle 41 = .ok (.aload_n 0, 1) := by decide +kernel
theorem dX9_settle_42 : decode cX9_settle 42 = .ok (.dup, 1) := by decide +kernel
theorem dX9_settle_43 : decode cX9_settle 43 = .ok (.getfield 210, 3) := by decide +kernel
theorem dX9_settle_46 : decode cX9_settle 46 = .ok (.iconst 1, 1) := by decide +kernel
theorem dX9_settle_47 : decode cX9_settle 47 = .ok (.isub, 1) := by decide +kernel
theorem dX9_settle_48 : decode cX9_settle 48 = .ok (.putfield 210, 3) := by decide +kernel
theorem dX9_settle_51 : decode cX9_settle 51 = .ok (.aload_n 0, 1) := by decide +kernel
theorem dX9_settle_52 : decode cX9_settle 52 = .ok (.getfield 32, 3) := by decide +kernel
theorem dX9_settle_55 : decode cX9_settle 55 = .ok (.aload_n 0, 1) := by decide +kernel
theorem dX9_settle_56 : decode cX9_settle 56 = .ok (.getfield 216, 3) := by decide +kernel
theorem dX9_settle_59 : decode cX9_settle 59 = .ok (.aload_n 0, 1) := by decide +kernel
theorem dX9_settle_60 : decode cX9_settle 60 = .ok (.getfield 35, 3) := by decide +kernel
theorem dX9_settle_63 : decode cX9_settle 63 = .ok (.aload_n 0, 1) := by decide +kernel
theorem dX9_settle_64 : decode cX9_settle 64 = .ok (.getfield 210, 3) := by decide +kernel
theorem dX9_settle_67 : decode cX9_settle 67 = .ok (.iaload, 1) := by decide +kernel
theorem dX9_settle_68 : decode cX9_settle 68 = .ok (.iastore, 1) := by decide +kernel
theorem dX9_settle_69 : decode cX9_settle 69 = .ok (.aload_n 0, 1) := by decide +kernel
theorem dX9_settle_70 : decode cX9_settle 70 = .ok (.dup, 1) := by decide +kernel
theorem dX9_settle_71 : decode cX9_settle 71 = .ok (.getfield 216, 3) := by decide +kernel
theorem dX9_settle_74 : decode cX9_settle 74 = .ok (.iconst 1, 1) := by decide +kernel
theorem dX9_settle_75 : decode cX9_settle 75 = .ok (.iadd, 1) := by decide +kernel
theorem dX9_settle_76 : decode cX9_settle 76 = .ok (.putfield 216, 3) := by decide +kernel
theorem dX9_settle_79 : decode cX9_settle 79 = .ok (.goto (-79), 3) := by decide +kernel
theorem dX9_settle_82 : decode cX9_settle 82 = .ok (.return_, 1) := by decide +kernel
theorem dX9_signHere_0 : decode cX9_signHere 0 = .ok (.aload_n 0, 1) := by decide +kernel
theorem dX9_signHere_1 : decode cX9_signHere 1 = .ok (.getfield 192, 3) := by decide +kernel
theorem dX9_signHere_4 : decode cX9_signHere 4 = .ok (.iconst 3, 1) := by decide +kernel
theorem dX9_signHere_5 : decode cX9_signHere 5 = .ok (.if_icmp .eq 5, 3) := by decide +kernel
theorem dX9_signHere_8 : decode cX9_signHere 8 = .ok (.iconst 0, 1) := by decide +kernel
theorem dX9_signHere_9 : decode cX9_signHere 9 = .ok (.ireturn, 1) := by decide +kernel
theorem dX9_signHere_10 : decode cX9_signHere 10 = .ok (.aload_n 0, 1) := by decide +kernel
theorem dX9_signHere_11 : decode cX9_signHere 11 = .ok (.getfield 198, 3) := by decide +kernel
theorem dX9_signHere_14 : decode cX9_signHere 14 = .ok (.lookupswitch 108 #[(38, 84), (42, 102), (43, 96), (45, 99), (47, 105), (60, 87), (61, 90), (62, 93), (124, 82)], 82) := by decide +kernel
theorem dX9_signHere_96 : decode cX9_signHere 96 = .ok (.iconst (-1), 1) := by decide +kernel
theorem dX9_signHere_97 : decode cX9_signHere 97 = .ok (.ireturn, 1) := by decide +kernel
theorem dX9_signHere_98 : decode cX9_signHere 98 = .ok (.bipush (-2), 2) := by decide +kernel
theorem dX9_signHere_100 : decode cX9_signHere 100 = .ok (.ireturn, 1) := by decide +kernel
theorem dX9_signHere_101 : decode cX9_signHere 101 = .ok (.bipush (-3), 2) := by decide +kernel
theorem dX9_signHere_103 : decode cX9_signHere 103 = .ok (.ireturn, 1) := by decide +kernel
theorem dX9_signHere_104 : decode cX9_signHere 104 = .ok (.bipush (-4), 2) := by decide +kernel
theorem dX9_signHere_106 : decode cX9_signHere 106 = .ok (.ireturn, 1) := by decide +kernel
theorem dX9_signHere_107 : decode cX9_signHere 107 = .ok (.bipush (-5), 2) := by decide +kernel
theorem dX9_signHere_109 : decode cX9_signHere 109 = .ok (.ireturn, 1) := by decide +kernel
theorem dX9_signHere_110 : decode cX9_signHere 110 = .ok (.bipush (-6), 2) := by decide +kernel
theorem dX9_signHere_112 : decode cX9_signHere 112 = .ok (.ireturn, 1) := by decide +kernel
theorem dX9_signHere_113 : decode cX9_signHere 113 = .ok (.bipush (-7), 2) := by decide +kernel
theorem dX9_signHere_115 : decode cX9_signHere 115 = .ok (.ireturn, 1) := by decide +kernel
theorem dX9_signHere_116 : decode cX9_signHere 116 = .ok (.bipush (-8), 2) := by decide +kernel
theorem dX9_signHere_118 : decode cX9_signHere 118 = .ok (.ireturn, 1) := by decide +kernel
theorem dX9_signHere_119 : decode cX9_signHere 119 = .ok (.bipush (-9), 2) := by decide +kernel
theorem dX9_signHere_121 : decode cX9_signHere 121 = .ok (.ireturn, 1) := by decide +kernel
theorem dX9_signHere_122 : decode cX9_signHere 122 = .ok (.iconst 0, 1) := by decide +kernel
theorem dX9_signHere_123 : decode cX9_signHere 123 = .ok (.ireturn, 1) := by decide +kernel
theorem dX9_takesPart_0 : decode cX9_takesPart 0 = .ok (.aload_n 0, 1) := by decide +kernel
theorem dX9_takesPart_1 : decode cX9_takesPart 1 = .ok (.getfield 192, 3) := by decide +kernel
theorem dX9_takesPart_4 : decode cX9_takesPart 4 = .ok (.iconst 1, 1) := by decide +kernel
theorem dX9_takesPart_5 : decode cX9_takesPart 5 = .ok (.if_icmp .ne 31, 3) := by decide +kernel
theorem dX9_takesPart_8 : decode cX9_takesPart 8 = .ok (.aload_n 0, 1) := by decide +kernel
theorem dX9_takesPart_9 : decode cX9_takesPart 9 = .ok (.getfield 183, 3) := by decide +kernel
theorem dX9_takesPart_12 : decode cX9_takesPart 12 = .ok (.aload_n 0, 1) := by decide +kernel
theorem dX9_takesPart_13 : decode cX9_takesPart 13 = .ok (.getfield 186, 3) := by decide +kernel
theorem dX9_takesPart_16 : decode cX9_takesPart 16 = .ok (.isub, 1) := by decide +kernel
theorem dX9_takesPart_17 : decode cX9_takesPart 17 = .ok (.iconst 1, 1) := by decide +kernel
theorem dX9_takesPart_18 : decode cX9_takesPart 18 = .ok (.if_icmp .ne 18, 3) := by decide +kernel
theorem dX9_takesPart_21 : decode cX9_takesPart 21 = .ok (.aload_n 0, 1) := by decide +kernel
theorem dX9_takesPart_22 : decode cX9_takesPart 22 = .ok (.aload_n 0, 1) := by decide +kernel
theorem dX9_takesPart_23 : decode cX9_takesPart 23 = .ok (.getfield 198, 3) := by decide +kernel
theorem dX9_takesPart_26 : decode cX9_takesPart 26 = .ok (.invokevirtual 219, 3) := by decide +kernel
theorem dX9_takesPart_29 : decode cX9_takesPart 29 = .ok (.ifCond .lt 7, 3) := by decide +kernel
theorem dX9_takesPart_32 : decode cX9_takesPart 32 = .ok (.iconst 1, 1) := by decide +kernel
theorem dX9_takesPart_33 : decode cX9_takesPart 33 = .ok (.goto 4, 3) := by decide +kernel
theorem dX9_takesPart_36 : decode cX9_takesPart 36 = .ok (.iconst 0, 1) := by decide +kernel
theorem dX9_takesPart_37 : decode cX9_takesPart 37 = .ok (.istore_n 1, 1) := by decide +kernel
theorem dX9_takesPart_38 : decode cX9_takesPart 38 = .ok (.aload_n 0, 1) := by decide +kernel
theorem dX9_takesPart_39 : decode cX9_takesPart 39 = .ok (.getfield 192, 3) := by decide +kernel
theorem dX9_takesPart_42 : decode cX9_takesPart 42 = .ok (.iconst 2, 1) := by decide +kernel
theorem dX9_takesPart_43 : decode cX9_takesPart 43 = .ok (.if_icmp .eq 9, 3) := by decide +kernel
theorem dX9_takesPart_46 : decode cX9_takesPart 46 = .ok (.iload_n 1, 1) := by decide +kernel
theorem dX9_takesPart_47 : decode cX9_takesPart 47 = .ok (.ifCond .ne 5, 3) := by decide +kernel
theorem dX9_takesPart_50 : decode cX9_takesPart 50 = .ok (.iconst 0, 1) := by decide +kernel
theorem dX9_takesPart_51 : decode cX9_takesPart 51 = .ok (.ireturn, 1) := by decide +kernel
theorem dX9_takesPart_52 : decode cX9_takesPart 52 = .ok (.aload_n 0, 1) := by decide +kernel
theorem dX9_takesPart_53 : decode cX9_takesPart 53 = .ok (.getfield 32, 3) := by decide +kernel
theorem dX9_takesPart_56 : decode cX9_takesPart 56 = .ok (.aload_n 0, 1) := by decide +kernel
theorem dX9_takesPart_57 : decode cX9_takesPart 57 = .ok (.getfield 216, 3) := by decide +kernel
theorem dX9_takesPart_60 : decode cX9_takesPart 60 = .ok (.aload_n 0, 1) := by decide +kernel
theorem dX9_takesPart_61 : decode cX9_takesPart 61 = .ok (.getfield 192, 3) := by decide +kernel
theorem dX9_takesPart_64 : decode cX9_takesPart 64 = .ok (.iconst 2, 1) := by decide +kernel
theorem dX9_takesPart_65 : decode cX9_takesPart 65 = .ok (.if_icmp .ne 10, 3) := by decide +kernel
theorem dX9_takesPart_68 : decode cX9_takesPart 68 = .ok (.aload_n 0, 1) := by decide +kernel
theorem dX9_takesPart_69 : decode cX9_takesPart 69 = .ok (.getfield 198, 3) := by decide +kernel
theorem dX9_takesPart_72 : decode cX9_takesPart 72 = .ok (.goto 15, 3) := by decide +kernel
theorem dX9_takesPart_75 : decode cX9_takesPart 75 = .ok (.sipush 10000, 3) := by decide +kernel
theorem dX9_takesPart_78 : decode cX9_takesPart 78 = .ok (.aload_n 0, 1) := by decide +kernel
theorem dX9_takesPart_79 : decode cX9_takesPart 79 = .ok (.aload_n 0, 1) := by decide +kernel
theorem dX9_takesPart_80 : decode cX9_takesPart 80 = .ok (.getfield 198, 3) := by decide +kernel
theorem dX9_takesPart_83 : decode cX9_takesPart 83 = .ok (.invokevirtual 219, 3) := by decide +kernel
theorem dX9_takesPart_86 : decode cX9_takesPart 86 = .ok (.iadd, 1) := by decide +kernel
theorem dX9_takesPart_87 : decode cX9_takesPart 87 = .ok (.iastore, 1) := by decide +kernel
theorem dX9_takesPart_88 : decode cX9_takesPart 88 = .ok (.aload_n 0, 1) := by decide +kernel
theorem dX9_takesPart_89 : decode cX9_takesPart 89 = .ok (.dup, 1) := by decide +kernel
theorem dX9_takesPart_90 : decode cX9_takesPart 90 = .ok (.getfield 216, 3) := by decide +kernel
theorem dX9_takesPart_93 : decode cX9_takesPart 93 = .ok (.iconst 1, 1) := by decide +kernel
theorem dX9_takesPart_94 : decode cX9_takesPart 94 = .ok (.iadd, 1) := by decide +kernel
theorem dX9_takesPart_95 : decode cX9_takesPart 95 = .ok (.putfield 216, 3) := by decide +kernel
theorem dX9_takesPart_98 : decode cX9_takesPart 98 = .ok (.aload_n 0, 1) := by decide +kernel
theorem dX9_takesPart_99 : decode cX9_takesPart 99 = .ok (.dup, 1) := by decide +kernel
theorem dX9_takesPart_100 : decode cX9_takesPart 100 = .ok (.getfield 222, 3) := by decide +kernel
theorem dX9_takesPart_103 : decode cX9_takesPart 103 = .ok (.iconst 1, 1) := by decide +kernel
theorem dX9_takesPart_104 : decode cX9_takesPart 104 = .ok (.iadd, 1) := by decide +kernel
theorem dX9_takesPart_105 : decode cX9_takesPart 105 = .ok (.putfield 222, 3) := by decide +kernel
theorem dX9_takesPart_108 : decode cX9_takesPart 108 = .ok (.aload_n 0, 1) := by decide +kernel
theorem dX9_takesPart_109 : decode cX9_takesPart 109 = .ok (.bipush 6, 2) := by decide +kernel
theorem dX9_takesPart_111 : decode cX9_takesPart 111 = .ok (.invokevirtual 225, 3) := by decide +kernel
theorem dX9_takesPart_114 : decode cX9_takesPart 114 = .ok (.aload_n 0, 1) := by decide +kernel
theorem dX9_takesPart_115 : decode cX9_takesPart 115 = .ok (.invokevirtual 207, 3) := by decide +kernel
theorem dX9_takesPart_118 : decode cX9_takesPart 118 = .ok (.iconst 1, 1) := by decide +kernel
theorem dX9_takesPart_119 : decode cX9_takesPart 119 = .ok (.ireturn, 1) := by decide +kernel
theorem dX9_takesE_0 : decode cX9_takesE 0 = .ok (.iconst 0, 1) := by decide +kernel
theorem dX9_takesE_1 : decode cX9_takesE 1 = .ok (.istore_n 1, 1) := by decide +kernel
theorem dX9_takesE_2 : decode cX9_takesE 2 = .ok (.iconst 0, 1) := by decide +kernel
theorem dX9_takesE_3 : decode cX9_takesE 3 = .ok (.istore_n 2, 1) := by decide +kernel
theorem dX9_takesE_4 : decode cX9_takesE 4 = .ok (.iconst 1, 1) := by decide +kernel
theorem dX9_takesE_5 : decode cX9_takesE 5 = .ok (.istore_n 3, 1) := by decide +kernel
theorem dX9_takesE_6 : decode cX9_takesE 6 = .ok (.aload_n 0, 1) := by decide +kernel
theorem dX9_takesE_7 : decode cX9_takesE 7 = .ok (.iconst 0, 1) := by decide +kernel
theorem dX9_takesE_8 : decode cX9_takesE 8 = .ok (.putfield 216, 3) := by decide +kernel
theorem dX9_takesE_11 : decode cX9_takesE 11 = .ok (.aload_n 0, 1) := by decide +kernel
theorem dX9_takesE_12 : decode cX9_takesE 12 = .ok (.iconst 0, 1) := by decide +kernel
theorem dX9_takesE_13 : decode cX9_takesE 13 = .ok (.putfield 222, 3) := by decide +kernel
theorem dX9_takesE_16 : decode cX9_takesE 16 = .ok (.aload_n 0, 1) := by decide +kernel
theorem dX9_takesE_17 : decode cX9_takesE 17 = .ok (.iconst 0, 1) := by decide +kernel
theorem dX9_takesE_18 : decode cX9_takesE 18 = .ok (.putfield 210, 3) := by decide +kernel
theorem dX9_takesE_21 : decode cX9_takesE 21 = .ok (.aload_n 0, 1) := by decide +kernel
theorem dX9_takesE_22 : decode cX9_takesE 22 = .ok (.getfield 38, 3) := by decide +kernel
theorem dX9_takesE_25 : decode cX9_takesE 25 = .ok (.iconst 0, 1) := by decide +kernel
theorem dX9_takesE_26 : decode cX9_takesE 26 = .ok (.iconst 0, 1) := by decide +kernel
theorem dX9_takesE_27 : decode cX9_takesE 27 = .ok (.bastore, 1) := by decide +kernel
theorem dX9_takesE_28 : decode cX9_takesE 28 = .ok (.iload_n 3, 1) := by decide +kernel
theorem dX9_takesE_29 : decode cX9_takesE 29 = .ok (.ifCond .ne 10, 3) := by decide +kernel
theorem dX9_takesE_32 : decode cX9_takesE 32 = .ok (.aload_n 0, 1) := by decide +kernel
theorem dX9_takesE_33 : decode cX9_takesE 33 = .ok (.getfield 192, 3) := by decide +kernel
theorem dX9_takesE_36 : decode cX9_takesE 36 = .ok (.ifCond .eq 309, 3) := by decide +kernel
theorem dX9_takesE_39 : decode cX9_takesE 39 = .ok (.iload_n 3, 1) := by decide +kernel
theorem dX9_takesE_40 : decode cX9_takesE 40 = .ok (.ifCond .eq 140, 3) := by decide +kernel
theorem dX9_takesE_43 : decode cX9_takesE 43 = .ok (.aload_n 0, 1) := by decide +kernel
theorem dX9_takesE_44 : decode cX9_takesE 44 = .ok (.getfield 192, 3) := by decide +kernel
theorem dX9_takesE_47 : decode cX9_takesE 47 = .ok (.iconst 3, 1) := by decide +kernel
theorem dX9_takesE_48 : decode cX9_takesE 48 = .ok (.if_icmp .ne 49, 3) := by decide +kernel
theorem dX9_takesE_51 : decode cX9_takesE 51 = .ok (.aload_n 0, 1) := by decide +kernel
theorem dX9_takesE_52 : decode cX9_takesE 52 = .ok (.getfield 198, 3) := by decide +kernel
theorem dX9_takesE_55 : decode cX9_takesE 55 = .ok (.bipush 33, 2) := by decide +kernel
theorem dX9_takesE_57 : decode cX9_takesE 57 = .ok (.if_icmp .ne 40, 3) := by decide +kernel
theorem dX9_takesE_60 : decode cX9_takesE 60 = .ok (.iload_n 2, 1) := by decide +kernel
theorem dX9_takesE_61 : decode cX9_takesE 61 = .ok (.bipush 8, 2) := by decide +kernel
theorem dX9_takesE_63 : decode cX9_takesE 63 = .ok (.if_icmp .ge 34, 3) := by decide +kernel
theorem dX9_takesE_66 : decode cX9_takesE 66 = .ok (.aload_n 0, 1) := by decide +kernel
theorem dX9_takesE_67 : decode cX9_takesE 67 = .ok (.getfield 35, 3) := by decide +kernel
theorem dX9_takesE_70 : decode cX9_takesE 70 = .ok (.aload_n 0, 1) := by decide +kernel
theorem dX9_takesE_71 : decode cX9_takesE 71 = .ok (.getfield 210, 3) := by decide +kernel
theorem dX9_takesE_74 : decode cX9_takesE 74 = .ok (.bipush (-10), 2) := by decide +kernel
theorem dX9_takesE_76 : decode cX9_takesE 76 = .ok (.iastore, 1) := by decide +kernel
theorem dX9_takesE_77 : decode cX9_takesE 77 = .ok (.aload_n 0, 1) := by decide +kernel
theorem dX9_takesE_78 : decode cX9_takesE 78 = .ok (.dup, 1) := by decide +kernel
theorem dX9_takesE_79 : decode cX9_takesE 79 = .ok (.getfield 210, 3) := by decide +kernel
theorem dX9_takesE_82 : decode cX9_takesE 82 = .ok (.iconst 1, 1) := by decide +kernel
theorem dX9_takesE_83 : decode cX9_takesE 83 = .ok (.iadd, 1) := by decide +kernel
theorem dX9_takesE_84 : decode cX9_takesE 84 = .ok (.putfield 210, 3) := by decide +kernel
theorem dX9_takesE_87 : decode cX9_takesE 87 = .ok (.iinc 2 1, 3) := by decide +kernel
theorem dX9_takesE_90 : decode cX9_takesE 90 = .ok (.aload_n 0, 1) := by decide +kernel
theorem dX9_takesE_91 : decode cX9_takesE 91 = .ok (.invokevirtual 207, 3) := by decide +kernel
theorem dX9_takesE_94 : decode cX9_takesE 94 = .ok (.goto 78, 3) := by decide +kernel
theorem dX9_takesE_97 : decode cX9_takesE 97 = .ok (.aload_n 0, 1) := by decide +kernel
theorem dX9_takesE_98 : decode cX9_takesE 98 = .ok (.getfield 192, 3) := by decide +kernel
theorem dX9_takesE_101 : decode cX9_takesE 101 = .ok (.iconst 3, 1) := by decide +kernel
theorem dX9_takesE_102 : decode cX9_takesE 102 = .ok (.if_icmp .ne 56, 3) := by decide +kernel
theorem dX9_takesE_105 : decode cX9_takesE 105 = .ok (.aload_n 0, 1) := by decide +kernel
theorem dX9_takesE_106 : decode cX9_takesE 106 = .ok (.getfield 198, 3) := by decide +kernel
theorem dX9_takesE_109 : decode cX9_takesE 109 = .ok (.bipush 40, 2) := by decide +kernel
theorem dX9_takesE_111 : decode cX9_takesE 111 = .ok (.if_icmp .ne 47, 3) := by decide +kernel
theorem dX9_takesE_114 : decode cX9_takesE 114 = .ok (.iload_n 1, 1) := by decide +kernel
theorem dX9_takesE_115 : decode cX9_takesE 115 = .ok (.bipush 8, 2) := by decide +kernel
theorem dX9_takesE_117 : decode cX9_takesE 117 = .ok (.if_icmp .ge 41, 3) := by decide +kernel
theorem dX9_takesE_120 : decode cX9_takesE 120 = .ok (.aload_n 0, 1) := by decide +kernel
theorem dX9_takesE_121 : decode cX9_takesE 121 = .ok (.getfield 35, 3) := by decide +kernel
theorem dX9_takesE_124 : decode cX9_takesE 124 = .ok (.aload_n 0, 1) := by decide +kernel
theorem dX9_takesE_125 : decode cX9_takesE 125 = .ok (.getfield 210, 3) := by decide +kernel
theorem dX9_takesE_128 : decode cX9_takesE 128 = .ok (.bipush (-11), 2) := by decide +kernel
theorem dX9_takesE_130 : decode cX9_takesE 130 = .ok (.iastore, 1) := by decide +kernel
theorem dX9_takesE_131 : decode cX9_takesE 131 = .ok (.aload_n 0, 1) := by decide +kernel
theorem dX9_takesE_132 : decode cX9_takesE 132 = .ok (.dup, 1) := by decide +kernel
theorem dX9_takesE_133 : decode cX9_takesE 133 = .ok (.getfield 210, 3) := by decide +kernel
theorem dX9_takesE_136 : decode cX9_takesE 136 = .ok (.iconst 1, 1) := by decide +kernel
theorem dX9_takesE_137 : decode cX9_takesE 137 = .ok (.iadd, 1) := by decide +kernel
theorem dX9_takesE_138 : decode cX9_takesE 138 = .ok (.putfield 210, 3) := by decide +kernel
theorem dX9_takesE_141 : decode cX9_takesE 141 = .ok (.iinc 1 1, 3) := by decide +kernel
theorem dX9_takesE_144 : decode cX9_takesE 144 = .ok (.aload_n 0, 1) := by decide +kernel
theorem dX9_takesE_145 : decode cX9_takesE 145 = .ok (.getfield 38, 3) := by decide +kernel
theorem dX9_takesE_148 : decode cX9_takesE 148 = .ok (.iload_n 1, 1) := by decide +kernel
theorem dX9_takesE_149 : decode cX9_takesE 149 = .ok (.iconst 0, 1) := by decide +kernel
theorem dX9_takesE_150 : decode cX9_takesE 150 = .ok (.bastore, 1) := by decide +kernel
theorem dX9_takesE_151 : decode cX9_takesE 151 = .ok (.aload_n 0, 1) := by decide +kernel
theorem dX9_takesE_152 : decode cX9_takesE 152 = .ok (.invokevirtual 207, 3) := by decide +kernel
theorem dX9_takesE_155 : decode cX9_takesE 155 = .ok (.goto 17, 3) := by decide +kernel
theorem dX9_takesE_158 : decode cX9_takesE 158 = .ok (.aload_n 0, 1) := by decide +kernel
theorem dX9_takesE_159 : decode cX9_takesE 159 = .ok (.invokevirtual 228, 3) := by decide +kernel
theorem dX9_takesE_162 : decode cX9_takesE 162 = .ok (.ifCond .eq 8, 3) := by decide +kernel
theorem dX9_takesE_165 : decode cX9_takesE 165 = .ok (.iconst 0, 1) := by decide +kernel
theorem dX9_takesE_166 : decode cX9_takesE 166 = .ok (.istore_n 3, 1) := by decide +kernel
theorem dX9_takesE_167 : decode cX9_takesE 167 = .ok (.goto 5, 3) := by decide +kernel
theorem dX9_takesE_170 : decode cX9_takesE 170 = .ok (.iconst 0, 1) := by decide +kernel
theorem dX9_takesE_171 : decode cX9_takesE 171 = .ok (.ireturn, 1) := by decide +kernel
theorem dX9_takesE_172 : decode cX9_takesE 172 = .ok (.aload_n 0, 1) := by decide +kernel
theorem dX9_takesE_173 : decode cX9_takesE 173 = .ok (.invokevirtual 231, 3) := by decide +kernel
theorem dX9_takesE_176 : decode cX9_takesE 176 = .ok (.istore_n 2, 1) := by decide +kernel
theorem dX9_takesE_177 : decode cX9_takesE 177 = .ok (.goto (-149), 3) := by decide +kernel
theorem dX9_takesE_180 : decode cX9_takesE 180 = .ok (.aload_n 0, 1) := by decide +kernel
theorem dX9_takesE_181 : decode cX9_takesE 181 = .ok (.getfield 192, 3) := by decide +kernel
theorem dX9_takesE_184 : decode cX9_takesE 184 = .ok (.iconst 3, 1) := by decide +kernel
theorem dX9_takesE_185 : decode cX9_takesE 185 = .ok (.if_icmp .ne 52, 3) := by decide +kernel
theorem dX9_takesE_188 : decode cX9_takesE 188 = .ok (.aload_n 0, 1) := by decide +kernel
theorem dX9_takesE_189 : decode cX9_takesE 189 = .ok (.getfield 198, 3) := by decide +kernel
theorem dX9_takesE_192 : decode cX9_takesE 192 = .ok (.bipush 41, 2) := by decide +kernel
theorem dX9_takesE_194 : decode cX9_takesE 194 = .ok (.if_icmp .ne 43, 3) := by decide +kernel
theorem dX9_takesE_197 : decode cX9_takesE 197 = .ok (.iload_n 1, 1) := by decide +kernel
theorem dX9_takesE_198 : decode cX9_takesE 198 = .ok (.ifCond .le 39, 3) := by decide +kernel
theorem dX9_takesE_201 : decode cX9_takesE 201 = .ok (.aload_n 0, 1) := by decide +kernel
theorem dX9_takesE_202 : decode cX9_takesE 202 = .ok (.iconst 0, 1) := by decide +kernel
theorem dX9_takesE_203 : decode cX9_takesE 203 = .ok (.invokevirtual 225, 3) := by decide +kernel
theorem dX9_takesE_206 : decode cX9_takesE 206 = .ok (.aload_n 0, 1) := by decide +kernel
theorem dX9_takesE_207 : decode cX9_takesE 207 = .ok (.dup, 1) := by decide +kernel
theorem dX9_takesE_208 : decode cX9_takesE 208 = .ok (.getfield 210, 3) := by decide +kernel
theorem dX9_takesE_211 : decode cX9_takesE 211 = .ok (.iconst 1, 1) := by decide +kernel
theorem dX9_takesE_212 : decode cX9_takesE 212 = .ok (.isub, 1) := by decide +kernel
theorem dX9_takesE_213 : decode cX9_takesE 213 = .ok (.putfield 210, 3) := by decide +kernel
theorem dX9_takesE_216 : decode cX9_takesE 216 = .ok (.iinc 1 (-1), 3) := by decide +kernel
theorem dX9_takesE_219 : decode cX9_takesE 219 = .ok (.aload_n 0, 1) := by decide +kernel
theorem dX9_takesE_220 : decode cX9_takesE 220 = .ok (.bipush 6, 2) := by decide +kernel
theorem dX9_takesE_222 : decode cX9_takesE 222 = .ok (.invokevirtual 225, 3) := by decide +kernel
theorem dX9_takesE_225 : decode cX9_takesE 225 = .ok (.aload_n 0, 1) := by decide +kernel
theorem dX9_takesE_226 : decode cX9_takesE 226 = .ok (.invokevirtual 231, 3) := by decide +kernel
theorem dX9_takesE_229 : decode cX9_takesE 229 = .ok (.istore_n 2, 1) := by decide +kernel
theorem dX9_takesE_230 : decode cX9_takesE 230 = .ok (.aload_n 0, 1) := by decide +kernel
theorem dX9_takesE_231 : decode cX9_takesE 231 = .ok (.invokevirtual 207, 3) := by decide +kernel
theorem dX9_takesE_234 : decode cX9_takesE 234 = .ok (.goto (-206), 3) := by decide +kernel
theorem dX9_takesE_237 : decode cX9_takesE 237 = .ok (.aload_n 0, 1) := by decide +kernel
theorem dX9_takesE_238 : decode cX9_takesE 238 = .ok (.invokevirtual 234, 3) := by decide +kernel
theorem dX9_takesE_241 : decode cX9_takesE 241 = .ok (.istore 4, 2) := by decide +kernel
theorem dX9_takesE_243 : decode cX9_takesE 243 = .ok (.iload 4, 2) := by decide +kernel
theorem dX9_takesE_245 : decode cX9_takesE 245 = .ok (.ifCond .eq 21, 3) := by decide +kernel
theorem dX9_takesE_248 : decode cX9_takesE 248 = .ok (.iload 4, 2) := by decide +kernel
theorem dX9_takesE_250 : decode cX9_takesE 250 = .ok (.invokestatic 213, 3) := by decide +kernel
theorem dX9_takesE_253 : decode cX9_takesE 253 = .ok (.iconst 3, 1) := by decide +kernel
theorem dX9_takesE_254 : decode cX9_takesE 254 = .ok (.if_icmp .ne 14, 3) := by decide +kernel
theorem dX9_takesE_257 : decode cX9_takesE 257 = .ok (.aload_n 0, 1) := by decide +kernel
theorem dX9_takesE_258 : decode cX9_takesE 258 = .ok (.getfield 38, 3) := by decide +kernel
theorem dX9_takesE_261 : decode cX9_takesE 261 = .ok (.iload_n 1, 1) := by decide +kernel
theorem dX9_takesE_262 : decode cX9_takesE 262 = .ok (.baload, 1) := by decide +kernel
theorem dX9_takesE_263 : decode cX9_takesE 263 = .ok (.ifCond .eq 5, 3) := by decide +kernel
theorem dX9_takesE_266 : decode cX9_takesE 266 = .ok (.iconst 0, 1) := by decide +kernel
theorem dX9_takesE_267 : decode cX9_takesE 267 = .ok (.ireturn, 1) := by decide +kernel
theorem dX9_takesE_268 : decode cX9_takesE 268 = .ok (.aload_n 0, 1) := by decide +kernel
theorem dX9_takesE_269 : decode cX9_takesE 269 = .ok (.getfield 38, 3) := by decide +kernel
theorem dX9_takesE_272 : decode cX9_takesE 272 = .ok (.iload_n 1, 1) := by decide +kernel
theorem dX9_takesE_273 : decode cX9_takesE 273 = .ok (.iload 4, 2) := by decide +kernel
theorem dX9_takesE_275 : decode cX9_takesE 275 = .ok (.invokestatic 213, 3) := by decide +kernel
theorem dX9_takesE_278 : decode cX9_takesE 278 = .ok (.iconst 3, 1) := by decide +kernel
theorem dX9_takesE_279 : decode cX9_takesE 279 = .ok (.if_icmp .eq 21, 3) := by decide +kernel
theorem dX9_takesE_282 : decode cX9_takesE 282 = .ok (.iload 4, 2) := by decide +kernel
theorem dX9_takesE_284 : decode cX9_takesE 284 = .ok (.invokestatic 213, 3) := by decide +kernel
theorem dX9_takesE_287 : decode cX9_takesE 287 = .ok (.iconst 3, 1) := by decide +kernel
theorem dX9_takesE_288 : decode cX9_takesE 288 = .ok (.if_icmp .le 16, 3) := by decide +kernel
theorem dX9_takesE_291 : decode cX9_takesE 291 = .ok (.aload_n 0, 1) := by decide +kernel
theorem dX9_takesE_292 : decode cX9_takesE 292 = .ok (.getfield 38, 3) := by decide +kernel
theorem dX9_takesE_295 : decode cX9_takesE 295 = .ok (.iload_n 1, 1) := by decide +kernel
theorem dX9_takesE_296 : decode cX9_takesE 296 = .ok (.baload, 1) := by decide +kernel
theorem dX9_takesE_297 : decode cX9_takesE 297 = .ok (.ifCond .eq 7, 3) := by decide +kernel
theorem dX9_takesE_300 : decode cX9_takesE 300 = .ok (.iconst 1, 1) := by decide +kernel
theorem dX9_takesE_301 : decode cX9_takesE 301 = .ok (.goto 4, 3) := by decide +kernel
theorem dX9_takesE_304 : decode cX9_takesE 304 = .ok (.iconst 0, 1) := by decide +kernel
theorem dX9_takesE_305 : decode cX9_takesE 305 = .ok (.bastore, 1) := by decide +kernel
theorem dX9_takesE_306 : decode cX9_takesE 306 = .ok (.aload_n 0, 1) := by decide +kernel
theorem dX9_takesE_307 : decode cX9_takesE 307 = .ok (.iload 4, 2) := by decide +kernel
theorem dX9_takesE_309 : decode cX9_takesE 309 = .ok (.invokestatic 213, 3) := by decide +kernel
theorem dX9_takesE_312 : decode cX9_takesE 312 = .ok (.invokevirtual 225, 3) := by decide +kernel
theorem dX9_takesE_315 : decode cX9_takesE 315 = .ok (.aload_n 0, 1) := by decide +kernel
theorem dX9_takesE_316 : decode cX9_takesE 316 = .ok (.getfield 35, 3) := by decide +kernel
theorem dX9_takesE_319 : decode cX9_takesE 319 = .ok (.aload_n 0, 1) := by decide +kernel
theorem dX9_takesE_320 : decode cX9_takesE 320 = .ok (.getfield 210, 3) := by decide +kernel
theorem dX9_takesE_323 : decode cX9_takesE 323 = .ok (.iload 4, 2) := by decide +kernel
theorem dX9_takesE_325 : decode cX9_takesE 325 = .ok (.iastore, 1) := by decide +kernel
theorem dX9_takesE_326 : decode cX9_takesE 326 = .ok (.aload_n 0, 1) := by decide +kernel
theorem dX9_takesE_327 : decode cX9_takesE 327 = .ok (.dup, 1) := by decide +kernel
theorem dX9_takesE_328 : decode cX9_takesE 328 = .ok (.getfield 210, 3) := by decide +kernel
theorem dX9_takesE_331 : decode cX9_takesE 331 = .ok (.iconst 1, 1) := by decide +kernel
theorem dX9_takesE_332 : decode cX9_takesE 332 = .ok (.iadd, 1) := by decide +kernel
theorem dX9_takesE_333 : decode cX9_takesE 333 = .ok (.putfield 210, 3) := by decide +kernel
theorem dX9_takesE_336 : decode cX9_takesE 336 = .ok (.iconst 1, 1) := by decide +kernel
theorem dX9_takesE_337 : decode cX9_takesE 337 = .ok (.istore_n 3, 1) := by decide +kernel
theorem dX9_takesE_338 : decode cX9_takesE 338 = .ok (.aload_n 0, 1) := by decide +kernel
theorem dX9_takesE_339 : decode cX9_takesE 339 = .ok (.invokevirtual 207, 3) := by decide +kernel
theorem dX9_takesE_342 : decode cX9_takesE 342 = .ok (.goto (-314), 3) := by decide +kernel
theorem dX9_takesE_345 : decode cX9_takesE 345 = .ok (.aload_n 0, 1) := by decide +kernel
theorem dX9_takesE_346 : decode cX9_takesE 346 = .ok (.iconst 0, 1) := by decide +kernel
theorem dX9_takesE_347 : decode cX9_takesE 347 = .ok (.invokevirtual 225, 3) := by decide +kernel
theorem dX9_takesE_350 : decode cX9_takesE 350 = .ok (.iload_n 1, 1) := by decide +kernel
theorem dX9_takesE_351 : decode cX9_takesE 351 = .ok (.ifCond .ne 7, 3) := by decide +kernel
theorem dX9_takesE_354 : decode cX9_takesE 354 = .ok (.iconst 1, 1) := by decide +kernel
theorem dX9_takesE_355 : decode cX9_takesE 355 = .ok (.goto 4, 3) := by decide +kernel
theorem dX9_takesE_358 : decode cX9_takesE 358 = .ok (.iconst 0, 1) := by decide +kernel
theorem dX9_takesE_359 : decode cX9_takesE 359 = .ok (.ireturn, 1) := by decide +kernel
theorem dX9_notsOpen_0 : decode cX9_notsOpen 0 = .ok (.iconst 0, 1) := by decide +kernel
theorem dX9_notsOpen_1 : decode cX9_notsOpen 1 = .ok (.istore_n 1, 1) := by decide +kernel
theorem dX9_notsOpen_2 : decode cX9_notsOpen 2 = .ok (.iconst 0, 1) := by decide +kernel
theorem dX9_notsOpen_3 : decode cX9_notsOpen 3 = .ok (.istore_n 2, 1) := by decide +kernel
theorem dX9_notsOpen_4 : decode cX9_notsOpen 4 = .ok (.iload_n 2, 1) := by decide +kernel
theorem dX9_notsOpen_5 : decode cX9_notsOpen 5 = .ok (.aload_n 0, 1) := by decide +kernel
theorem dX9_notsOpen_6 : decode cX9_notsOpen 6 = .ok (.getfield 210, 3) := by decide +kernel
theorem dX9_notsOpen_9 : decode cX9_notsOpen 9 = .ok (.if_icmp .ge 28, 3) := by decide +kernel
theorem dX9_notsOpen_12 : decode cX9_notsOpen 12 = .ok (.iload_n 1, 1) := by decide +kernel
theorem dX9_notsOpen_13 : decode cX9_notsOpen 13 = .ok (.aload_n 0, 1) := by decide +kernel
theorem dX9_notsOpen_14 : decode cX9_notsOpen 14 = .ok (.getfield 35, 3) := by decide +kernel
theorem dX9_notsOpen_17 : decode cX9_notsOpen 17 = .ok (.iload_n 2, 1) := by decide +kernel
theorem dX9_notsOpen_18 : decode cX9_notsOpen 18 = .ok (.iaload, 1) := by decide +kernel
theorem dX9_notsOpen_19 : decode cX9_notsOpen 19 = .ok (.bipush (-10), 2) := by decide +kernel
theorem dX9_notsOpen_21 : decode cX9_notsOpen 21 = .ok (.if_icmp .ne 7, 3) := by decide +kernel
theorem dX9_notsOpen_24 : decode cX9_notsOpen 24 = .ok (.iconst 1, 1) := by decide +kernel
theorem dX9_notsOpen_25 : decode cX9_notsOpen 25 = .ok (.goto 4, 3) := by decide +kernel
theorem dX9_notsOpen_28 : decode cX9_notsOpen 28 = .ok (.iconst 0, 1) := by decide +kernel
theorem dX9_notsOpen_29 : decode cX9_notsOpen 29 = .ok (.iadd, 1) := by decide +kernel
theorem dX9_notsOpen_30 : decode cX9_notsOpen 30 = .ok (.istore_n 1, 1) := by decide +kernel
theorem dX9_notsOpen_31 : decode cX9_notsOpen 31 = .ok (.iinc 2 1, 3) := by decide +kernel
theorem dX9_notsOpen_34 : decode cX9_notsOpen 34 = .ok (.goto (-30), 3) := by decide +kernel
theorem dX9_notsOpen_37 : decode cX9_notsOpen 37 = .ok (.iload_n 1, 1) := by decide +kernel
theorem dX9_notsOpen_38 : decode cX9_notsOpen 38 = .ok (.ireturn, 1) := by decide +kernel
theorem dX9_text_0 : decode cX9_text 0 = .ok (.aload_n 0, 1) := by decide +kernel
theorem dX9_text_1 : decode cX9_text 1 = .ok (.iconst 0, 1) := by decide +kernel
theorem dX9_text_2 : decode cX9_text 2 = .ok (.putfield 183, 3) := by decide +kernel
theorem dX9_text_5 : decode cX9_text 5 = .ok (.aload_n 0, 1) := by decide +kernel
theorem dX9_text_6 : decode cX9_text 6 = .ok (.iconst (-1), 1) := by decide +kernel
theorem dX9_text_7 : decode cX9_text 7 = .ok (.putfield 189, 3) := by decide +kernel
theorem dX9_text_10 : decode cX9_text 10 = .ok (.aload_n 0, 1) := by decide +kernel
theorem dX9_text_11 : decode cX9_text 11 = .ok (.invokevirtual 207, 3) := by decide +kernel
theorem dX9_text_14 : decode cX9_text 14 = .ok (.aload_n 0, 1) := by decide +kernel
theorem dX9_text_15 : decode cX9_text 15 = .ok (.invokevirtual 237, 3) := by decide +kernel
theorem dX9_text_18 : decode cX9_text 18 = .ok (.ifCond .eq 14, 3) := by decide +kernel
theorem dX9_text_21 : decode cX9_text 21 = .ok (.aload_n 0, 1) := by decide +kernel
theorem dX9_text_22 : decode cX9_text 22 = .ok (.invokevirtual 240, 3) := by decide +kernel
theorem dX9_text_25 : decode cX9_text 25 = .ok (.ifCond .eq 7, 3) := by decide +kernel
theorem dX9_text_28 : decode cX9_text 28 = .ok (.iconst 1, 1) := by decide +kernel
theorem dX9_text_29 : decode cX9_text 29 = .ok (.goto 4, 3) := by decide +kernel
theorem dX9_text_32 : decode cX9_text 32 = .ok (.iconst 0, 1) := by decide +kernel
theorem dX9_text_33 : decode cX9_text 33 = .ok (.istore_n 1, 1) := by decide +kernel
theorem dX9_text_34 : decode cX9_text 34 = .ok (.aload_n 0, 1) := by decide +kernel
theorem dX9_text_35 : decode cX9_text 35 = .ok (.iconst 0, 1) := by decide +kernel
theorem dX9_text_36 : decode cX9_text 36 = .ok (.putfield 179, 3) := by decide +kernel
theorem dX9_text_39 : decode cX9_text 39 = .ok (.iload_n 1, 1) := by decide +kernel
theorem dX9_text_40 : decode cX9_text 40 = .ok (.ifCond .ne 11, 3) := by decide +kernel
theorem dX9_text_43 : decode cX9_text 43 = .ok (.bipush (-100), 2) := by decide +kernel
theorem dX9_text_45 : decode cX9_text 45 = .ok (.aload_n 0, 1) := by decide +kernel
theorem dX9_text_46 : decode cX9_text 46 = .ok (.getfield 186, 3) := by decide +kernel
theorem dX9_text_49 : decode cX9_text 49 = .ok (.isub, 1) := by decide +kernel
theorem dX9_text_50 : decode cX9_text 50 = .ok (.ireturn, 1) := by decide +kernel
theorem dX9_text_51 : decode cX9_text 51 = .ok (.aload_n 0, 1) := by decide +kernel
theorem dX9_text_52 : decode cX9_text 52 = .ok (.getfield 9, 3) := by decide +kernel
theorem dX9_text_55 : decode cX9_text 55 = .ok (.bipush 7, 2) := by decide +kernel
theorem dX9_text_57 : decode cX9_text 57 = .ok (.iaload, 1) := by decide +kernel
theorem dX9_text_58 : decode cX9_text 58 = .ok (.bipush 14, 2) := by decide +kernel
theorem dX9_text_60 : decode cX9_text 60 = .ok (.if_icmp .ne 6, 3) := by decide +kernel
theorem dX9_text_63 : decode cX9_text 63 = .ok (.ldc 84, 2) := by decide +kernel
theorem dX9_text_65 : decode cX9_text 65 = .ok (.ireturn, 1) := by decide +kernel
theorem dX9_text_66 : decode cX9_text 66 = .ok (.aload_n 0, 1) := by decide +kernel
theorem dX9_text_67 : decode cX9_text 67 = .ok (.getfield 9, 3) := by decide +kernel
theorem dX9_text_70 : decode cX9_text 70 = .ok (.bipush 7, 2) := by decide +kernel
theorem dX9_text_72 : decode cX9_text 72 = .ok (.iaload, 1) := by decide +kernel
theorem dX9_text_73 : decode cX9_text 73 = .ok (.istore_n 2, 1) := by decide +kernel
theorem dX9_text_74 : decode cX9_text 74 = .ok (.aload_n 0, 1) := by decide +kernel
theorem dX9_text_75 : decode cX9_text 75 = .ok (.getfield 9, 3) := by decide +kernel
theorem dX9_text_78 : decode cX9_text 78 = .ok (.bipush 61, 2) := by decide +kernel
theorem dX9_text_80 : decode cX9_text 80 = .ok (.iconst 2, 1) := by decide +kernel
theorem dX9_text_81 : decode cX9_text 81 = .ok (.iload_n 2, 1) := by decide +kernel
theorem dX9_text_82 : decode cX9_text 82 = .ok (.imul, 1) := by decide +kernel
theorem dX9_text_83 : decode cX9_text 83 = .ok (.iadd, 1) := by decide +kernel
theorem dX9_text_84 : decode cX9_text 84 = .ok (.sipush 1000, 3) := by decide +kernel
theorem dX9_text_87 : decode cX9_text 87 = .ok (.aload_n 0, 1) := by decide +kernel
theorem dX9_text_88 : decode cX9_text 88 = .ok (.getfield 204, 3) := by decide +kernel
theorem dX9_text_91 : decode cX9_text 91 = .ok (.imul, 1) := by decide +kernel
theorem dX9_text_92 : decode cX9_text 92 = .ok (.aload_n 0, 1) := by decide +kernel
theorem dX9_text_93 : decode cX9_text 93 = .ok (.getfield 216, 3) := by decide +kernel
theorem dX9_text_96 : decode cX9_text 96 = .ok (.iadd, 1) := by decide +kernel
theorem dX9_text_97 : decode cX9_text 97 = .ok (.iastore, 1) := by decide +kernel
theorem dX9_text_98 : decode cX9_text 98 = .ok (.aload_n 0, 1) := by decide +kernel
theorem dX9_text_99 : decode cX9_text 99 = .ok (.getfield 9, 3) := by decide +kernel
theorem dX9_text_102 : decode cX9_text 102 = .ok (.bipush 61, 2) := by decide +kernel
theorem dX9_text_104 : decode cX9_text 104 = .ok (.iconst 2, 1) := by decide +kernel
theorem dX9_text_105 : decode cX9_text 105 = .ok (.iload_n 2, 1) := by decide +kernel
theorem dX9_text_106 : decode cX9_text 106 = .ok (.imul, 1) := by decide +kernel
theorem dX9_text_107 : decode cX9_text 107 = .ok (.iadd, 1) := by decide +kernel
theorem dX9_text_108 : decode cX9_text 108 = .ok (.iconst 1, 1) := by decide +kernel
theorem dX9_text_109 : decode cX9_text 109 = .ok (.iadd, 1) := by decide +kernel
theorem dX9_text_110 : decode cX9_text 110 = .ok (.aload_n 0, 1) := by decide +kernel
theorem dX9_text_111 : decode cX9_text 111 = .ok (.getfield 222, 3) := by decide +kernel
theorem dX9_text_114 : decode cX9_text 114 = .ok (.iastore, 1) := by decide +kernel
theorem dX9_text_115 : decode cX9_text 115 = .ok (.iconst 0, 1) := by decide +kernel
theorem dX9_text_116 : decode cX9_text 116 = .ok (.istore_n 3, 1) := by decide +kernel
theorem dX9_text_117 : decode cX9_text 117 = .ok (.iload_n 3, 1) := by decide +kernel
theorem dX9_text_118 : decode cX9_text 118 = .ok (.aload_n 0, 1) := by decide +kernel
theorem dX9_text_119 : decode cX9_text 119 = .ok (.getfield 216, 3) := by decide +kernel
theorem dX9_text_122 : decode cX9_text 122 = .ok (.if_icmp .ge 29, 3) := by decide +kernel
theorem dX9_text_125 : decode cX9_text 125 = .ok (.aload_n 0, 1) := by decide +kernel
theorem dX9_text_126 : decode cX9_text 126 = .ok (.getfield 9, 3) := by decide +kernel
theorem dX9_text_129 : decode cX9_text 129 = .ok (.bipush 89, 2) := by decide +kernel
theorem dX9_text_131 : decode cX9_text 131 = .ok (.bipush 96, 2) := by decide +kernel
theorem dX9_text_133 : decode cX9_text 133 = .ok (.iload_n 2, 1) := by decide +kernel
theorem dX9_text_134 : decode cX9_text 134 = .ok (.imul, 1) := by decide +kernel
theorem dX9_text_135 : decode cX9_text 135 = .ok (.iadd, 1) := by decide +kernel
theorem dX9_text_136 : decode cX9_text 136 = .ok (.iload_n 3, 1) := by decide +kernel
theorem dX9_text_137 : decode cX9_text 137 = .ok (.iadd, 1) := by decide +kernel
theorem dX9_text_138 : decode cX9_text 138 = .ok (.aload_n 0, 1) := by decide +kernel
theorem dX9_text_139 : decode cX9_text 139 = .ok (.getfield 32, 3) := by decide +kernel
theorem dX9_text_142 : decode cX9_text 142 = .ok (.iload_n 3, 1) := by decide +kernel
theorem dX9_text_143 : decode cX9_text 143 = .ok (.iaload, 1) := by decide +kernel
theorem dX9_text_144 : decode cX9_text 144 = .ok (.iastore, 1) := by decide +kernel
theorem dX9_text_145 : decode cX9_text 145 = .ok (.iinc 3 1, 3) := by decide +kernel
theorem dX9_text_148 : decode cX9_text 148 = .ok (.goto (-31), 3) := by decide +kernel
theorem dX9_text_151 : decode cX9_text 151 = .ok (.aload_n 0, 1) := by decide +kernel
theorem dX9_text_152 : decode cX9_text 152 = .ok (.getfield 9, 3) := by decide +kernel
theorem dX9_text_155 : decode cX9_text 155 = .ok (.bipush 7, 2) := by decide +kernel
theorem dX9_text_157 : decode cX9_text 157 = .ok (.dup2, 1) := by decide +kernel
theorem dX9_text_158 : decode cX9_text 158 = .ok (.iaload, 1) := by decide +kernel
theorem dX9_text_159 : decode cX9_text 159 = .ok (.iconst 1, 1) := by decide +kernel
theorem dX9_text_160 : decode cX9_text 160 = .ok (.iadd, 1) := by decide +kernel
theorem dX9_text_161 : decode cX9_text 161 = .ok (.iastore, 1) := by decide +kernel
theorem dX9_text_162 : decode cX9_text 162 = .ok (.iload_n 2, 1) := by decide +kernel
theorem dX9_text_163 : decode cX9_text 163 = .ok (.ireturn, 1) := by decide +kernel
theorem dX9_textTold_0 : decode cX9_textTold 0 = .ok (.iload_n 1, 1) := by decide +kernel
theorem dX9_textTold_1 : decode cX9_textTold 1 = .ok (.iconst 0, 1) := by decide +kernel
theorem dX9_textTold_2 : decode cX9_textTold 2 = .ok (.aload_n 0, 1) := by decide +kernel
theorem dX9_textTold_3 : decode cX9_textTold 3 = .ok (.getfield 9, 3) := by decide +kernel
theorem dX9_textTold_6 : decode cX9_textTold 6 = .ok (.bipush 7, 2) := by decide +kernel
theorem dX9_textTold_8 : decode cX9_textTold 8 = .ok (.iaload, 1) := by decide +kernel
theorem dX9_textTold_9 : decode cX9_textTold 9 = .ok (.iconst 1, 1) := by decide +kernel
theorem dX9_textTold_10 : decode cX9_textTold 10 = .ok (.isub, 1) := by decide +kernel
theorem dX9_textTold_11 : decode cX9_textTold 11 = .ok (.invokestatic 75, 3) := by decide +kernel
theorem dX9_textTold_14 : decode cX9_textTold 14 = .ok (.ifCond .eq 12, 3) := by decide +kernel
theorem dX9_textTold_17 : decode cX9_textTold 17 = .ok (.iload_n 2, 1) := by decide +kernel
theorem dX9_textTold_18 : decode cX9_textTold 18 = .ok (.iconst 0, 1) := by decide +kernel
theorem dX9_textTold_19 : decode cX9_textTold 19 = .ok (.iconst 1, 1) := by decide +kernel
theorem dX9_textTold_20 : decode cX9_textTold 20 = .ok (.invokestatic 75, 3) := by decide +kernel
theorem dX9_textTold_23 : decode cX9_textTold 23 = .ok (.ifCond .ne 6, 3) := by decide +kernel
theorem dX9_textTold_26 : decode cX9_textTold 26 = .ok (.ldc 83, 2) := by decide +kernel
theorem dX9_textTold_28 : decode cX9_textTold 28 = .ok (.ireturn, 1) := by decide +kernel
theorem dX9_textTold_29 : decode cX9_textTold 29 = .ok (.iload_n 2, 1) := by decide +kernel
theorem dX9_textTold_30 : decode cX9_textTold 30 = .ok (.ifCond .ne 21, 3) := by decide +kernel
theorem dX9_textTold_33 : decode cX9_textTold 33 = .ok (.aload_n 0, 1) := by decide +kernel
theorem dX9_textTold_34 : decode cX9_textTold 34 = .ok (.getfield 9, 3) := by decide +kernel
theorem dX9_textTold_37 : decode cX9_textTold 37 = .ok (.bipush 61, 2) := by decide +kernel
theorem dX9_textTold_39 : decode cX9_textTold 39 = .ok (.iconst 2, 1) := by decide +kernel
theorem dX9_textTold_40 : decode cX9_textTold 40 = .ok (.iload_n 1, 1) := by decide +kernel
theorem dX9_textTold_41 : decode cX9_textTold 41 = .ok (.imul, 1) := by decide +kernel
theorem dX9_textTold_42 : decode cX9_textTold 42 = .ok (.iadd, 1) := by decide +kernel
theorem dX9_textTold_43 : decode cX9_textTold 43 = .ok (.iaload, 1) := by decide +kernel
theorem dX9_textTold_44 : decode cX9_textTold 44 = .ok (.sipush 1000, 3) := by decide +kernel
theorem dX9_textTold_47 : decode cX9_textTold 47 = .ok (.idiv, 1) := by decide +kernel
theorem dX9_textTold_48 : decode cX9_textTold 48 = .ok (.goto 16, 3) := by decide +kernel
theorem dX9_textTold_51 : decode cX9_textTold 51 = .ok (.aload_n 0, 1) := by decide +kernel
theorem dX9_textTold_52 : decode cX9_textTold 52 = .ok (.getfield 9, 3) := by decide +kernel
theorem dX9_textTold_55 : decode cX9_textTold 55 = .ok (.bipush 61, 2) := by decide +kernel
theorem dX9_textTold_57 : decode cX9_textTold 57 = .ok (.iconst 2, 1) := by decide +kernel
theorem dX9_textTold_58 : decode cX9_textTold 58 = .ok (.iload_n 1, 1) := by decide +kernel
theorem dX9_textTold_59 : decode cX9_textTold 59 = .ok (.imul, 1) := by decide +kernel
theorem dX9_textTold_60 : decode cX9_textTold 60 = .ok (.iadd, 1) := by decide +kernel
theorem dX9_textTold_61 : decode cX9_textTold 61 = .ok (.iconst 1, 1) := by decide +kernel
theorem dX9_textTold_62 : decode cX9_textTold 62 = .ok (.iadd, 1) := by decide +kernel
theorem dX9_textTold_63 : decode cX9_textTold 63 = .ok (.iaload, 1) := by decide +kernel
theorem dX9_textTold_64 : decode cX9_textTold 64 = .ok (.ireturn, 1) := by decide +kernel
theorem dX9_counts_0 : decode cX9_counts 0 = .ok (.aload_n 0, 1) := by decide +kernel
theorem dX9_counts_1 : decode cX9_counts 1 = .ok (.getfield 9, 3) := by decide +kernel
theorem dX9_counts_4 : decode cX9_counts 4 = .ok (.bipush 7, 2) := by decide +kernel
theorem dX9_counts_6 : decode cX9_counts 6 = .ok (.iaload, 1) := by decide +kernel
theorem dX9_counts_7 : decode cX9_counts 7 = .ok (.iconst 1, 1) := by decide +kernel
theorem dX9_counts_8 : decode cX9_counts 8 = .ok (.isub, 1) := by decide +kernel
theorem dX9_counts_9 : decode cX9_counts 9 = .ok (.istore_n 2, 1) := by decide +kernel
theorem dX9_counts_10 : decode cX9_counts 10 = .ok (.iload_n 2, 1) := by decide +kernel
theorem dX9_counts_11 : decode cX9_counts 11 = .ok (.ifCond .lt 30, 3) := by decide +kernel
theorem dX9_counts_14 : decode cX9_counts 14 = .ok (.aload_n 0, 1) := by decide +kernel
theorem dX9_counts_15 : decode cX9_counts 15 = .ok (.getfield 9, 3) := by decide +kernel
theorem dX9_counts_18 : decode cX9_counts 18 = .ok (.bipush 61, 2) := by decide +kernel
theorem dX9_counts_20 : decode cX9_counts 20 = .ok (.iconst 2, 1) := by decide +kernel
theorem dX9_counts_21 : decode cX9_counts 21 = .ok (.iload_n 2, 1) := by decide +kernel
theorem dX9_counts_22 : decode cX9_counts 22 = .ok (.imul, 1) := by decide +kernel
theorem dX9_counts_23 : decode cX9_counts 23 = .ok (.iadd, 1) := by decide +kernel
theorem dX9_counts_24 : decode cX9_counts 24 = .ok (.iaload, 1) := by decide +kernel
theorem dX9_counts_25 : decode cX9_counts 25 = .ok (.sipush 1000, 3) := by decide +kernel
theorem dX9_counts_28 : decode cX9_counts 28 = .ok (.idiv, 1) := by decide +kernel
theorem dX9_counts_29 : decode cX9_counts 29 = .ok (.iload_n 1, 1) := by decide +kernel
theorem dX9_counts_30 : decode cX9_counts 30 = .ok (.if_icmp .ne 5, 3) := by decide +kernel
theorem dX9_counts_33 : decode cX9_counts 33 = .ok (.iload_n 2, 1) := by decide +kernel
theorem dX9_counts_34 : decode cX9_counts 34 = .ok (.ireturn, 1) := by decide +kernel
theorem dX9_counts_35 : decode cX9_counts 35 = .ok (.iinc 2 (-1), 3) := by decide +kernel
theorem dX9_counts_38 : decode cX9_counts 38 = .ok (.goto (-28), 3) := by decide +kernel
theorem dX9_counts_41 : decode cX9_counts 41 = .ok (.iconst (-1), 1) := by decide +kernel
theorem dX9_counts_42 : decode cX9_counts 42 = .ok (.ireturn, 1) := by decide +kernel
theorem dX9_why_0 : decode cX9_why 0 = .ok (.iload_n 1, 1) := by decide +kernel
theorem dX9_why_1 : decode cX9_why 1 = .ok (.iconst 0, 1) := by decide +kernel
theorem dX9_why_2 : decode cX9_why 2 = .ok (.iconst 2, 1) := by decide +kernel
theorem dX9_why_3 : decode cX9_why 3 = .ok (.invokestatic 75, 3) := by decide +kernel
theorem dX9_why_6 : decode cX9_why 6 = .ok (.ifCond .ne 6, 3) := by decide +kernel
theorem dX9_why_9 : decode cX9_why 9 = .ok (.ldc 83, 2) := by decide +kernel
theorem dX9_why_11 : decode cX9_why 11 = .ok (.ireturn, 1) := by decide +kernel
theorem dX9_why_12 : decode cX9_why 12 = .ok (.aload_n 0, 1) := by decide +kernel
theorem dX9_why_13 : decode cX9_why 13 = .ok (.iload_n 1, 1) := by decide +kernel
theorem dX9_why_14 : decode cX9_why 14 = .ok (.invokevirtual 104, 3) := by decide +kernel
theorem dX9_why_17 : decode cX9_why 17 = .ok (.istore_n 2, 1) := by decide +kernel
theorem dX9_why_18 : decode cX9_why 18 = .ok (.iload_n 2, 1) := by decide +kernel
theorem dX9_why_19 : decode cX9_why 19 = .ok (.ifCond .ge 8, 3) := by decide +kernel
theorem dX9_why_22 : decode cX9_why 22 = .ok (.ldc 166, 2) := by decide +kernel
theorem dX9_why_24 : decode cX9_why 24 = .ok (.goto 4, 3) := by decide +kernel
theorem dX9_why_27 : decode cX9_why 27 = .ok (.iload_n 2, 1) := by decide +kernel
theorem dX9_why_28 : decode cX9_why 28 = .ok (.ireturn, 1) := by decide +kernel
theorem dX9_two_0 : decode cX9_two 0 = .ok (.iload_n 0, 1) := by decide +kernel
theorem dX9_two_1 : decode cX9_two 1 = .ok (.tableswitch 120 (-8) (-1) #[116, 112, 108, 97, 86, 75, 61, 47], 47) := by decide +kernel
theorem dX9_two_48 : decode cX9_two 48 = .ok (.iload_n 1, 1) := by decide +kernel
theorem dX9_two_49 : decode cX9_two 49 = .ok (.ifCond .ne 7, 3) := by decide +kernel
theorem dX9_two_52 : decode cX9_two 52 = .ok (.iload_n 2, 1) := by decide +kernel
theorem dX9_two_53 : decode cX9_two 53 = .ok (.ifCond .eq 7, 3) := by decide +kernel
theorem dX9_two_56 : decode cX9_two 56 = .ok (.iconst 1, 1) := by decide +kernel
theorem dX9_two_57 : decode cX9_two 57 = .ok (.goto 4, 3) := by decide +kernel
theorem dX9_two_60 : decode cX9_two 60 = .ok (.iconst 0, 1) := by decide +kernel
theorem dX9_two_61 : decode cX9_two 61 = .ok (.ireturn, 1) := by decide +kernel
theorem dX9_two_62 : decode cX9_two 62 = .ok (.iload_n 1, 1) := by decide +kernel
theorem dX9_two_63 : decode cX9_two 63 = .ok (.ifCond .eq 11, 3) := by decide +kernel
theorem dX9_two_66 : decode cX9_two 66 = .ok (.iload_n 2, 1) := by decide +kernel
theorem dX9_two_67 : decode cX9_two 67 = .ok (.ifCond .eq 7, 3) := by decide +kernel
theorem dX9_two_70 : decode cX9_two 70 = .ok (.iconst 1, 1) := by decide +kernel
theorem dX9_two_71 : decode cX9_two 71 = .ok (.goto 4, 3) := by decide +kernel
theorem dX9_two_74 : decode cX9_two 74 = .ok (.iconst 0, 1) := by decide +kernel
theorem dX9_two_75 : decode cX9_two 75 = .ok (.ireturn, 1) := by decide +kernel
theorem dX9_two_76 : decode cX9_two 76 = .ok (.iload_n 1, 1) := by decide +kernel
theorem dX9_two_77 : decode cX9_two 77 = .ok (.iload_n 2, 1) := by decide +kernel
theorem dX9_two_78 : decode cX9_two 78 = .ok (.if_icmp .ge 7, 3) := by decide +kernel
theorem dX9_two_81 : decode cX9_two 81 = .ok (.iconst 1, 1) := by decide +kernel
theorem dX9_two_82 : decode cX9_two 82 = .ok (.goto 4, 3) := by decide +kernel
theorem dX9_two_85 : decode cX9_two 85 = .ok (.iconst 0, 1) := by decide +kernel
theorem dX9_two_86 : decode cX9_two 86 = .ok (.ireturn, 1) := by decide +kernel
theorem dX9_two_87 : decode cX9_two 87 = .ok (.iload_n 1, 1) := by decide +kernel
theorem dX9_two_88 : decode cX9_two 88 = .ok (.iload_n 2, 1) := by decide +kernel
theorem dX9_two_89 : decode cX9_two 89 = .ok (.if_icmp .ne 7, 3) := by decide +kernel
theorem dX9_two_92 : decode cX9_two 92 = .ok (.iconst 1, 1) := by decide +kernel
theorem dX9_two_93 : decode cX9_two 93 = .ok (.goto 4, 3) := by decide +kernel
theorem dX9_two_96 : decode cX9_two 96 = .ok (.iconst 0, 1) := by decide +kernel
theorem dX9_two_97 : decode cX9_two 97 = .ok (.ireturn, 1) := by decide +kernel
theorem dX9_two_98 : decode cX9_two 98 = .ok (.iload_n 1, 1) := by decide +kernel
theorem dX9_two_99 : decode cX9_two 99 = .ok (.iload_n 2, 1) := by decide +kernel
theorem dX9_two_100 : decode cX9_two 100 = .ok (.if_icmp .le 7, 3) := by decide +kernel
theorem dX9_two_103 : decode cX9_two 103 = .ok (.iconst 1, 1) := by decide +kernel
theorem dX9_two_104 : decode cX9_two 104 = .ok (.goto 4, 3) := by decide +kernel
theorem dX9_two_107 : decode cX9_two 107 = .ok (.iconst 0, 1) := by decide +kernel
theorem dX9_two_108 : decode cX9_two 108 = .ok (.ireturn, 1) := by decide +kernel
theorem dX9_two_109 : decode cX9_two 109 = .ok (.iload_n 1, 1) := by decide +kernel
theorem dX9_two_110 : decode cX9_two 110 = .ok (.iload_n 2, 1) := by decide +kernel
theorem dX9_two_111 : decode cX9_two 111 = .ok (.iadd, 1) := by decide +kernel
theorem dX9_two_112 : decode cX9_two 112 = .ok (.ireturn, 1) := by decide +kernel
theorem dX9_two_113 : decode cX9_two 113 = .ok (.iload_n 1, 1) := by decide +kernel
theorem dX9_two_114 : decode cX9_two 114 = .ok (.iload_n 2, 1) := by decide +kernel
theorem dX9_two_115 : decode cX9_two 115 = .ok (.isub, 1) := by decide +kernel
theorem dX9_two_116 : decode cX9_two 116 = .ok (.ireturn, 1) := by decide +kernel
theorem dX9_two_117 : decode cX9_two 117 = .ok (.iload_n 1, 1) := by decide +kernel
theorem dX9_two_118 : decode cX9_two 118 = .ok (.iload_n 2, 1) := by decide +kernel
theorem dX9_two_119 : decode cX9_two 119 = .ok (.imul, 1) := by decide +kernel
theorem dX9_two_120 : decode cX9_two 120 = .ok (.ireturn, 1) := by decide +kernel
theorem dX9_two_121 : decode cX9_two 121 = .ok (.iload_n 2, 1) := by decide +kernel
theorem dX9_two_122 : decode cX9_two 122 = .ok (.ifCond .ne 7, 3) := by decide +kernel
theorem dX9_two_125 : decode cX9_two 125 = .ok (.iconst 0, 1) := by decide +kernel
theorem dX9_two_126 : decode cX9_two 126 = .ok (.goto 6, 3) := by decide +kernel
theorem dX9_two_129 : decode cX9_two 129 = .ok (.iload_n 1, 1) := by decide +kernel
theorem dX9_two_130 : decode cX9_two 130 = .ok (.iload_n 2, 1) := by decide +kernel
theorem dX9_two_131 : decode cX9_two 131 = .ok (.idiv, 1) := by decide +kernel
theorem dX9_two_132 : decode cX9_two 132 = .ok (.ireturn, 1) := by decide +kernel
theorem dX9_worksOut_0 : decode cX9_worksOut 0 = .ok (.iconst 0, 1) := by decide +kernel
theorem dX9_worksOut_1 : decode cX9_worksOut 1 = .ok (.istore_n 2, 1) := by decide +kernel
theorem dX9_worksOut_2 : decode cX9_worksOut 2 = .ok (.aload_n 0, 1) := by decide +kernel
theorem dX9_worksOut_3 : decode cX9_worksOut 3 = .ok (.getfield 9, 3) := by decide +kernel
theorem dX9_worksOut_6 : decode cX9_worksOut 6 = .ok (.bipush 61, 2) := by decide +kernel
theorem dX9_worksOut_8 : decode cX9_worksOut 8 = .ok (.iconst 2, 1) := by decide +kernel
theorem dX9_worksOut_9 : decode cX9_worksOut 9 = .ok (.iload_n 1, 1) := by decide +kernel
theorem dX9_worksOut_10 : decode cX9_worksOut 10 = .ok (.imul, 1) := by decide +kernel
theorem dX9_worksOut_11 : decode cX9_worksOut 11 = .ok (.iadd, 1) := by decide +kernel
theorem dX9_worksOut_12 : decode cX9_worksOut 12 = .ok (.iaload, 1) := by decide +kernel
theorem dX9_worksOut_13 : decode cX9_worksOut 13 = .ok (.sipush 1000, 3) := by decide +kernel
theorem dX9_worksOut_16 : decode cX9_worksOut 16 = .ok (.irem, 1) := by decide +kernel
theorem dX9_worksOut_17 : decode cX9_worksOut 17 = .ok (.istore_n 3, 1) := by decide +kernel
theorem dX9_worksOut_18 : decode cX9_worksOut 18 = .ok (.iconst 0, 1) := by decide +kernel
theorem dX9_worksOut_19 : decode cX9_worksOut 19 = .ok (.istore 4, 2) := by decide +kernel
theorem dX9_worksOut_21 : decode cX9_worksOut 21 = .ok (.iload 4, 2) := by decide +kernel
theorem dX9_worksOut_23 : decode cX9_worksOut 23 = .ok (.iload_n 3, 1) := by decide +kernel
theorem dX9_worksOut_24 : decode cX9_worksOut 24 = .ok (.if_icmp .ge 131, 3) := by decide +kernel
theorem dX9_worksOut_27 : decode cX9_worksOut 27 = .ok (.aload_n 0, 1) := by decide +kernel
theorem dX9_worksOut_28 : decode cX9_worksOut 28 = .ok (.getfield 9, 3) := by decide +kernel
theorem dX9_worksOut_31 : decode cX9_worksOut 31 = .ok (.bipush 89, 2) := by decide +kernel
theorem dX9_worksOut_33 : decode cX9_worksOut 33 = .ok (.bipush 96, 2) := by decide +kernel
theorem dX9_worksOut_35 : decode cX9_worksOut 35 = .ok (.iload_n 1, 1) := by decide +kernel
theorem dX9_worksOut_36 : decode cX9_worksOut 36 = .ok (.imul, 1) := by decide +kernel
theorem dX9_worksOut_37 : decode cX9_worksOut 37 = .ok (.iadd, 1) := by decide +kernel
theorem dX9_worksOut_38 : decode cX9_worksOut 38 = .ok (.iload 4, 2) := by decide +kernel
theorem dX9_worksOut_40 : decode cX9_worksOut 40 = .ok (.iadd, 1) := by decide +kernel
theorem dX9_worksOut_41 : decode cX9_worksOut 41 = .ok (.iaload, 1) := by decide +kernel
theorem dX9_worksOut_42 : decode cX9_worksOut 42 = .ok (.istore 5, 2) := by decide +kernel
theorem dX9_worksOut_44 : decode cX9_worksOut 44 = .ok (.iload 5, 2) := by decide +kernel
theorem dX9_worksOut_46 : decode cX9_worksOut 46 = .ok (.ifCond .lt 39, 3) := by decide +kernel
theorem dX9_worksOut_49 : decode cX9_worksOut 49 = .ok (.aload_n 0, 1) := by decide +kernel
theorem dX9_worksOut_50 : decode cX9_worksOut 50 = .ok (.getfield 42, 3) := by decide +kernel
theorem dX9_worksOut_53 : decode cX9_worksOut 53 = .ok (.iload_n 2, 1) := by decide +kernel
theorem dX9_worksOut_54 : decode cX9_worksOut 54 = .ok (.iload 5, 2) := by decide +kernel
theorem dX9_worksOut_56 : decode cX9_worksOut 56 = .ok (.sipush 10000, 3) := by decide +kernel
theorem dX9_worksOut_59 : decode cX9_worksOut 59 = .ok (.if_icmp .ge 8, 3) := by decide +kernel
theorem dX9_worksOut_62 : decode cX9_worksOut 62 = .ok (.iload 5, 2) := by decide +kernel
theorem dX9_worksOut_64 : decode cX9_worksOut 64 = .ok (.goto 14, 3) := by decide +kernel
theorem dX9_worksOut_67 : decode cX9_worksOut 67 = .ok (.aload_n 0, 1) := by decide +kernel
theorem dX9_worksOut_68 : decode cX9_worksOut 68 = .ok (.getfield 45, 3) := by decide +kernel
theorem dX9_worksOut_71 : decode cX9_worksOut 71 = .ok (.iload 5, 2) := by decide +kernel
theorem dX9_worksOut_73 : decode cX9_worksOut 73 = .ok (.sipush 10000, 3) := by decide +kernel
theorem dX9_worksOut_76 : decode cX9_worksOut 76 = .ok (.isub, 1) := by decide +kernel
theorem dX9_worksOut_77 : decode cX9_worksOut 77 = .ok (.iaload, 1) := by decide +kernel
theorem dX9_worksOut_78 : decode cX9_worksOut 78 = .ok (.iastore, 1) := by decide +kernel
theorem dX9_worksOut_79 : decode cX9_worksOut 79 = .ok (.iinc 2 1, 3) := by decide +kernel
theorem dX9_worksOut_82 : decode cX9_worksOut 82 = .ok (.goto 67, 3) := by decide +kernel
theorem dX9_worksOut_85 : decode cX9_worksOut 85 = .ok (.iload 5, 2) := by decide +kernel
theorem dX9_worksOut_87 : decode cX9_worksOut 87 = .ok (.bipush (-10), 2) := by decide +kernel
theorem dX9_worksOut_89 : decode cX9_worksOut 89 = .ok (.if_icmp .ne 30, 3) := by decide +kernel
theorem dX9_worksOut_92 : decode cX9_worksOut 92 = .ok (.aload_n 0, 1) := by decide +kernel
theorem dX9_worksOut_93 : decode cX9_worksOut 93 = .ok (.getfield 42, 3) := by decide +kernel
theorem dX9_worksOut_96 : decode cX9_worksOut 96 = .ok (.iload_n 2, 1) := by decide +kernel
theorem dX9_worksOut_97 : decode cX9_worksOut 97 = .ok (.iconst 1, 1) := by decide +kernel
theorem dX9_worksOut_98 : decode cX9_worksOut 98 = .ok (.isub, 1) := by decide +kernel
theorem dX9_worksOut_99 : decode cX9_worksOut 99 = .ok (.aload_n 0, 1) := by decide +kernel
theorem dX9_worksOut_100 : decode cX9_worksOut 100 = .ok (.getfield 42, 3) := by decide +kernel
theorem dX9_worksOut_103 : decode cX9_worksOut 103 = .ok (.iload_n 2, 1) := by decide +kernel
theorem dX9_worksOut_104 : decode cX9_worksOut 104 = .ok (.iconst 1, 1) := by decide +kernel
theorem dX9_worksOut_105 : decode cX9_worksOut 105 = .ok (.isub, 1) := by decide +kernel
theorem dX9_worksOut_106 : decode cX9_worksOut 106 = .ok (.iaload, 1) := by decide +kernel
theorem dX9_worksOut_107 : decode cX9_worksOut 107 = .ok (.ifCond .ne 7, 3) := by decide +kernel
theorem dX9_worksOut_110 : decode cX9_worksOut 110 = .ok (.iconst 1, 1) := by decide +kernel
theorem dX9_worksOut_111 : decode cX9_worksOut 111 = .ok (.goto 4, 3) := by decide +kernel
theorem dX9_worksOut_114 : decode cX9_worksOut 114 = .ok (.iconst 0, 1) := by decide +kernel
theorem dX9_worksOut_115 : decode cX9_worksOut 115 = .ok (.iastore, 1) := by decide +kernel
theorem dX9_worksOut_116 : decode cX9_worksOut 116 = .ok (.goto 33, 3) := by decide +kernel
theorem dX9_worksOut_119 : decode cX9_worksOut 119 = .ok (.iinc 2 (-1), 3) := by decide +kernel
theorem dX9_worksOut_122 : decode cX9_worksOut 122 = .ok (.aload_n 0, 1) := by decide +kernel
theorem dX9_worksOut_123 : decode cX9_worksOut 123 = .ok (.getfield 42, 3) := by decide +kernel
theorem dX9_worksOut_126 : decode cX9_worksOut 126 = .ok (.iload_n 2, 1) := by decide +kernel
theorem dX9_worksOut_127 : decode cX9_worksOut 127 = .ok (.iconst 1, 1) := by decide +kernel
theorem dX9_worksOut_128 : decode cX9_worksOut 128 = .ok (.isub, 1) := by decide +kernel
theorem dX9_worksOut_129 : decode cX9_worksOut 129 = .ok (.iload 5, 2) := by decide +kernel
theorem dX9_worksOut_131 : decode cX9_worksOut 131 = .ok (.aload_n 0, 1) := by decide +kernel
theorem dX9_worksOut_132 : decode cX9_worksOut 132 = .ok (.getfield 42, 3) := by decide +kernel
theorem dX9_worksOut_135 : decode cX9_worksOut 135 = .ok (.iload_n 2, 1) := by decide +kernel
theorem dX9_worksOut_136 : decode cX9_worksOut 136 = .ok (.iconst 1, 1) := by decide +kernel
theorem dX9_worksOut_137 : decode cX9_worksOut 137 = .ok (.isub, 1) := by decide +kernel
theorem dX9_worksOut_138 : decode cX9_worksOut 138 = .ok (.iaload, 1) := by decide +kernel
theorem dX9_worksOut_139 : decode cX9_worksOut 139 = .ok (.aload_n 0, 1) := by decide +kernel
theorem dX9_worksOut_140 : decode cX9_worksOut 140 = .ok (.getfield 42, 3) := by decide +kernel
theorem dX9_worksOut_143 : decode cX9_worksOut 143 = .ok (.iload_n 2, 1) := by decide +kernel
theorem dX9_worksOut_144 : decode cX9_worksOut 144 = .ok (.iaload, 1) := by decide +kernel
theorem dX9_worksOut_145 : decode cX9_worksOut 145 = .ok (.invokestatic 243, 3) := by decide +kernel
theorem dX9_worksOut_148 : decode cX9_worksOut 148 = .ok (.iastore, 1) := by decide +kernel
theorem dX9_worksOut_149 : decode cX9_worksOut 149 = .ok (.iinc 4 1, 3) := by decide +kernel
theorem dX9_worksOut_152 : decode cX9_worksOut 152 = .ok (.goto (-131), 3) := by decide +kernel
theorem dX9_worksOut_155 : decode cX9_worksOut 155 = .ok (.aload_n 0, 1) := by decide +kernel
theorem dX9_worksOut_156 : decode cX9_worksOut 156 = .ok (.getfield 42, 3) := by decide +kernel
theorem dX9_worksOut_159 : decode cX9_worksOut 159 = .ok (.iconst 0, 1) := by decide +kernel
theorem dX9_worksOut_160 : decode cX9_worksOut 160 = .ok (.iaload, 1) := by decide +kernel
theorem dX9_worksOut_161 : decode cX9_worksOut 161 = .ok (.ireturn, 1) := by decide +kernel
theorem dX9_isSheet_0 : decode cX9_isSheet 0 = .ok (.iload_n 0, 1) := by decide +kernel
theorem dX9_isSheet_1 : decode cX9_isSheet 1 = .ok (.iconst 0, 1) := by decide +kernel
theorem dX9_isSheet_2 : decode cX9_isSheet 2 = .ok (.iconst 3, 1) := by decide +kernel
theorem dX9_isSheet_3 : decode cX9_isSheet 3 = .ok (.invokestatic 75, 3) := by decide +kernel
theorem dX9_isSheet_6 : decode cX9_isSheet 6 = .ok (.ireturn, 1) := by decide +kernel
theorem dX9_isSlot_0 : decode cX9_isSlot 0 = .ok (.iload_n 0, 1) := by decide +kernel
theorem dX9_isSlot_1 : decode cX9_isSlot 1 = .ok (.iconst 0, 1) := by decide +kernel
theorem dX9_isSlot_2 : decode cX9_isSlot 2 = .ok (.iconst 4, 1) := by decide +kernel
theorem dX9_isSlot_3 : decode cX9_isSlot 3 = .ok (.invokestatic 75, 3) := by decide +kernel
theorem dX9_isSlot_6 : decode cX9_isSlot 6 = .ok (.ireturn, 1) := by decide +kernel
theorem dX9_sheet_0 : decode cX9_sheet 0 = .ok (.iload_n 1, 1) := by decide +kernel
theorem dX9_sheet_1 : decode cX9_sheet 1 = .ok (.invokestatic 171, 3) := by decide +kernel
theorem dX9_sheet_4 : decode cX9_sheet 4 = .ok (.ifCond .eq 22, 3) := by decide +kernel
theorem dX9_sheet_7 : decode cX9_sheet 7 = .ok (.iload_n 2, 1) := by decide +kernel
theorem dX9_sheet_8 : decode cX9_sheet 8 = .ok (.iconst (-1), 1) := by decide +kernel
theorem dX9_sheet_9 : decode cX9_sheet 9 = .ok (.iconst 1, 1) := by decide +kernel
theorem dX9_sheet_10 : decode cX9_sheet 10 = .ok (.invokestatic 75, 3) := by decide +kernel
theorem dX9_sheet_13 : decode cX9_sheet 13 = .ok (.ifCond .eq 13, 3) := by decide +kernel
theorem dX9_sheet_16 : decode cX9_sheet 16 = .ok (.iload_n 2, 1) := by decide +kernel
theorem dX9_sheet_17 : decode cX9_sheet 17 = .ok (.ifCond .lt 12, 3) := by decide +kernel
theorem dX9_sheet_20 : decode cX9_sheet 20 = .ok (.iload_n 3, 1) := by decide +kernel
theorem dX9_sheet_21 : decode cX9_sheet 21 = .ok (.bipush 24, 2) := by decide +kernel
theorem dX9_sheet_23 : decode cX9_sheet 23 = .ok (.if_icmp .le 6, 3) := by decide +kernel
theorem dX9_sheet_26 : decode cX9_sheet 26 = .ok (.ldc 83, 2) := by decide +kernel
theorem dX9_sheet_28 : decode cX9_sheet 28 = .ok (.ireturn, 1) := by decide +kernel
theorem dX9_sheet_29 : decode cX9_sheet 29 = .ok (.iload_n 2, 1) := by decide +kernel
theorem dX9_sheet_30 : decode cX9_sheet 30 = .ok (.ifCond .lt 10, 3) := by decide +kernel
theorem dX9_sheet_33 : decode cX9_sheet 33 = .ok (.iload_n 3, 1) := by decide +kernel
theorem dX9_sheet_34 : decode cX9_sheet 34 = .ok (.ifCond .ge 6, 3) := by decide +kernel
theorem dX9_sheet_37 : decode cX9_sheet 37 = .ok (.ldc 246, 2) := by decide +kernel
theorem dX9_sheet_39 : decode cX9_sheet 39 = .ok (.ireturn, 1) := by decide +kernel
theorem dX9_sheet_40 : decode cX9_sheet 40 = .ok (.aload_n 0, 1) := by decide +kernel
theorem dX9_sheet_41 : decode cX9_sheet 41 = .ok (.getfield 48, 3) := by decide +kernel
theorem dX9_sheet_44 : decode cX9_sheet 44 = .ok (.iload_n 1, 1) := by decide +kernel
theorem dX9_sheet_45 : decode cX9_sheet 45 = .ok (.iload_n 2, 1) := by decide +kernel
theorem dX9_sheet_46 : decode cX9_sheet 46 = .ok (.iastore, 1) := by decide +kernel
theorem dX9_sheet_47 : decode cX9_sheet 47 = .ok (.aload_n 0, 1) := by decide +kernel
theorem dX9_sheet_48 : decode cX9_sheet 48 = .ok (.getfield 51, 3) := by decide +kernel
theorem dX9_sheet_51 : decode cX9_sheet 51 = .ok (.iload_n 1, 1) := by decide +kernel
theorem dX9_sheet_52 : decode cX9_sheet 52 = .ok (.iload_n 2, 1) := by decide +kernel
theorem dX9_sheet_53 : decode cX9_sheet 53 = .ok (.ifCond .ge 7, 3) := by decide +kernel
theorem dX9_sheet_56 : decode cX9_sheet 56 = .ok (.iconst 0, 1) := by decide +kernel
theorem dX9_sheet_57 : decode cX9_sheet 57 = .ok (.goto 4, 3) := by decide +kernel
theorem dX9_sheet_60 : decode cX9_sheet 60 = .ok (.iload_n 3, 1) := by decide +kernel
theorem dX9_sheet_61 : decode cX9_sheet 61 = .ok (.iastore, 1) := by decide +kernel
theorem dX9_sheet_62 : decode cX9_sheet 62 = .ok (.iconst 0, 1) := by decide +kernel
theorem dX9_sheet_63 : decode cX9_sheet 63 = .ok (.istore 4, 2) := by decide +kernel
theorem dX9_sheet_65 : decode cX9_sheet 65 = .ok (.iload 4, 2) := by decide +kernel
theorem dX9_sheet_67 : decode cX9_sheet 67 = .ok (.bipush 24, 2) := by decide +kernel
theorem dX9_sheet_69 : decode cX9_sheet 69 = .ok (.if_icmp .ge 22, 3) := by decide +kernel
theorem dX9_sheet_72 : decode cX9_sheet 72 = .ok (.aload_n 0, 1) := by decide +kernel
theorem dX9_sheet_73 : decode cX9_sheet 73 = .ok (.getfield 54, 3) := by decide +kernel
theorem dX9_sheet_76 : decode cX9_sheet 76 = .ok (.bipush 24, 2) := by decide +kernel
theorem dX9_sheet_78 : decode cX9_sheet 78 = .ok (.iload_n 1, 1) := by decide +kernel
theorem dX9_sheet_79 : decode cX9_sheet 79 = .ok (.imul, 1) := by decide +kernel
theorem dX9_sheet_80 : decode cX9_sheet 80 = .ok (.iload 4, 2) := by decide +kernel
theorem dX9_sheet_82 : decode cX9_sheet 82 = .ok (.iadd, 1) := by decide +kernel
theorem dX9_sheet_83 : decode cX9_sheet 83 = .ok (.iconst 0, 1) := by decide +kernel
theorem dX9_sheet_84 : decode cX9_sheet 84 = .ok (.iastore, 1) := by decide +kernel
theorem dX9_sheet_85 : decode cX9_sheet 85 = .ok (.iinc 4 1, 3) := by decide +kernel
theorem dX9_sheet_88 : decode cX9_sheet 88 = .ok (.goto (-23), 3) := by decide +kernel
theorem dX9_sheet_91 : decode cX9_sheet 91 = .ok (.aload_n 0, 1) := by decide +kernel
theorem dX9_sheet_92 : decode cX9_sheet 92 = .ok (.getfield 51, 3) := by decide +kernel
theorem dX9_sheet_95 : decode cX9_sheet 95 = .ok (.iload_n 1, 1) := by decide +kernel
theorem dX9_sheet_96 : decode cX9_sheet 96 = .ok (.iaload, 1) := by decide +kernel
theorem dX9_sheet_97 : decode cX9_sheet 97 = .ok (.ireturn, 1) := by decide +kernel
theorem dX9_mark_0 : decode cX9_mark 0 = .ok (.iload_n 1, 1) := by decide +kernel
theorem dX9_mark_1 : decode cX9_mark 1 = .ok (.invokestatic 171, 3) := by decide +kernel
theorem dX9_mark_4 : decode cX9_mark 4 = .ok (.ifCond .ne 6, 3) := by decide +kernel
theorem dX9_mark_7 : decode cX9_mark 7 = .ok (.ldc 83, 2) := by decide +kernel
theorem dX9_mark_9 : decode cX9_mark 9 = .ok (.ireturn, 1) := by decide +kernel
theorem dX9_mark_10 : decode cX9_mark 10 = .ok (.aload_n 0, 1) := by decide +kernel
theorem dX9_mark_11 : decode cX9_mark 11 = .ok (.getfield 48, 3) := by decide +kernel
theorem dX9_mark_14 : decode cX9_mark 14 = .ok (.iload_n 1, 1) := by decide +kernel
theorem dX9_mark_15 : decode cX9_mark 15 = .ok (.iaload, 1) := by decide +kernel
theorem dX9_mark_16 : decode cX9_mark 16 = .ok (.ifCond .ge 6, 3) := by decide +kernel
theorem dX9_mark_19 : decode cX9_mark 19 = .ok (.ldc 174, 2) := by decide +kernel
theorem dX9_mark_21 : decode cX9_mark 21 = .ok (.ireturn, 1) := by decide +kernel
theorem dX9_mark_22 : decode cX9_mark 22 = .ok (.iload_n 2, 1) := by decide +kernel
theorem dX9_mark_23 : decode cX9_mark 23 = .ok (.iconst 0, 1) := by decide +kernel
theorem dX9_mark_24 : decode cX9_mark 24 = .ok (.aload_n 0, 1) := by decide +kernel
theorem dX9_mark_25 : decode cX9_mark 25 = .ok (.getfield 51, 3) := by decide +kernel
theorem dX9_mark_28 : decode cX9_mark 28 = .ok (.iload_n 1, 1) := by decide +kernel
theorem dX9_mark_29 : decode cX9_mark 29 = .ok (.iaload, 1) := by decide +kernel
theorem dX9_mark_30 : decode cX9_mark 30 = .ok (.iconst 1, 1) := by decide +kernel
theorem dX9_mark_31 : decode cX9_mark 31 = .ok (.isub, 1) := by decide +kernel
theorem dX9_mark_32 : decode cX9_mark 32 = .ok (.invokestatic 75, 3) := by decide +kernel
theorem dX9_mark_35 : decode cX9_mark 35 = .ok (.ifCond .ne 6, 3) := by decide +kernel
theorem dX9_mark_38 : decode cX9_mark 38 = .ok (.ldc 247, 2) := by decide +kernel
theorem dX9_mark_40 : decode cX9_mark 40 = .ok (.ireturn, 1) := by decide +kernel
theorem dX9_mark_41 : decode cX9_mark 41 = .ok (.aload_n 0, 1) := by decide +kernel
theorem dX9_mark_42 : decode cX9_mark 42 = .ok (.getfield 48, 3) := by decide +kernel
theorem dX9_mark_45 : decode cX9_mark 45 = .ok (.iload_n 1, 1) := by decide +kernel
theorem dX9_mark_46 : decode cX9_mark 46 = .ok (.iaload, 1) := by decide +kernel
theorem dX9_mark_47 : decode cX9_mark 47 = .ok (.ifCond .ne 12, 3) := by decide +kernel
theorem dX9_mark_50 : decode cX9_mark 50 = .ok (.iload_n 3, 1) := by decide +kernel
theorem dX9_mark_51 : decode cX9_mark 51 = .ok (.ldc 166, 2) := by decide +kernel
theorem dX9_mark_53 : decode cX9_mark 53 = .ok (.if_icmp .ne 6, 3) := by decide +kernel
theorem dX9_mark_56 : decode cX9_mark 56 = .ok (.ldc 121, 2) := by decide +kernel
theorem dX9_mark_58 : decode cX9_mark 58 = .ok (.ireturn, 1) := by decide +kernel
theorem dX9_mark_59 : decode cX9_mark 59 = .ok (.aload_n 0, 1) := by decide +kernel
theorem dX9_mark_60 : decode cX9_mark 60 = .ok (.getfield 48, 3) := by decide +kernel
theorem dX9_mark_63 : decode cX9_mark 63 = .ok (.iload_n 1, 1) := by decide +kernel
theorem dX9_mark_64 : decode cX9_mark 64 = .ok (.iaload, 1) := by decide +kernel
theorem dX9_mark_65 : decode cX9_mark 65 = .ok (.iconst 1, 1) := by decide +kernel
theorem dX9_mark_66 : decode cX9_mark 66 = .ok (.if_icmp .ne 23, 3) := by decide +kernel
theorem dX9_mark_69 : decode cX9_mark 69 = .ok (.iload_n 3, 1) := by decide +kernel
theorem dX9_mark_70 : decode cX9_mark 70 = .ok (.ldc 166, 2) := by decide +kernel
theorem dX9_mark_72 : decode cX9_mark 72 = .ok (.if_icmp .eq 17, 3) := by decide +kernel
theorem dX9_mark_75 : decode cX9_mark 75 = .ok (.iload_n 3, 1) := by decide +kernel
theorem dX9_mark_76 : decode cX9_mark 76 = .ok (.ldc 248, 2) := by decide +kernel
theorem dX9_mark_78 : decode cX9_mark 78 = .ok (.ldc 249, 2) := by decide +kernel
theorem dX9_mark_80 : decode cX9_mark 80 = .ok (.invokestatic 75, 3) := by decide +kernel
theorem dX9_mark_83 : decode cX9_mark 83 = .ok (.ifCond .ne 6, 3) := by decide +kernel
theorem dX9_mark_86 : decode cX9_mark 86 = .ok (.ldc 83, 2) := by decide +kernel
theorem dX9_mark_88 : decode cX9_mark 88 = .ok (.ireturn, 1) := by decide +kernel
theorem dX9_mark_89 : decode cX9_mark 89 = .ok (.aload_n 0, 1) := by decide +kernel
theorem dX9_mark_90 : decode cX9_mark 90 = .ok (.getfield 54, 3) := by decide +kernel
theorem dX9_mark_93 : decode cX9_mark 93 = .ok (.bipush 24, 2) := by decide +kernel
theorem dX9_mark_95 : decode cX9_mark 95 = .ok (.iload_n 1, 1) := by decide +kernel
theorem dX9_mark_96 : decode cX9_mark 96 = .ok (.imul, 1) := by decide +kernel
theorem dX9_mark_97 : decode cX9_mark 97 = .ok (.iload_n 2, 1) := by decide +kernel
theorem dX9_mark_98 : decode cX9_mark 98 = .ok (.iadd, 1) := by decide +kernel
theorem dX9_mark_99 : decode cX9_mark 99 = .ok (.aload_n 0, 1) := by decide +kernel
theorem dX9_mark_100 : decode cX9_mark 100 = .ok (.getfield 48, 3) := by decide +kernel
theorem dX9_mark_103 : decode cX9_mark 103 = .ok (.iload_n 1, 1) := by decide +kernel
theorem dX9_mark_104 : decode cX9_mark 104 = .ok (.iaload, 1) := by decide +kernel
theorem dX9_mark_105 : decode cX9_mark 105 = .ok (.ifCond .ne 8, 3) := by decide +kernel
theorem dX9_mark_108 : decode cX9_mark 108 = .ok (.iload_n 3, 1) := by decide +kernel
theorem dX9_mark_109 : decode cX9_mark 109 = .ok (.i2s, 1) := by decide +kernel
theorem dX9_mark_110 : decode cX9_mark 110 = .ok (.goto 4, 3) := by decide +kernel
theorem dX9_mark_113 : decode cX9_mark 113 = .ok (.iload_n 3, 1) := by decide +kernel
theorem dX9_mark_114 : decode cX9_mark 114 = .ok (.iastore, 1) := by decide +kernel
theorem dX9_mark_115 : decode cX9_mark 115 = .ok (.iconst 1, 1) := by decide +kernel
theorem dX9_mark_116 : decode cX9_mark 116 = .ok (.ireturn, 1) := by decide +kernel
theorem dX9_pour_0 : decode cX9_pour 0 = .ok (.iload_n 1, 1) := by decide +kernel
theorem dX9_pour_1 : decode cX9_pour 1 = .ok (.invokestatic 171, 3) := by decide +kernel
theorem dX9_pour_4 : decode cX9_pour 4 = .ok (.ifCond .ne 6, 3) := by decide +kernel
theorem dX9_pour_7 : decode cX9_pour 7 = .ok (.ldc 83, 2) := by decide +kernel
theorem dX9_pour_9 : decode cX9_pour 9 = .ok (.ireturn, 1) := by decide +kernel
theorem dX9_pour_10 : decode cX9_pour 10 = .ok (.aload_n 0, 1) := by decide +kernel
theorem dX9_pour_11 : decode cX9_pour 11 = .ok (.getfield 48, 3) := by decide +kernel
theorem dX9_pour_14 : decode cX9_pour 14 = .ok (.iload_n 1, 1) := by decide +kernel
theorem dX9_pour_15 : decode cX9_pour 15 = .ok (.iaload, 1) := by decide +kernel
theorem dX9_pour_16 : decode cX9_pour 16 = .ok (.ifCond .ge 6, 3) := by decide +kernel
theorem dX9_pour_19 : decode cX9_pour 19 = .ok (.ldc 174, 2) := by decide +kernel
theorem dX9_pour_21 : decode cX9_pour 21 = .ok (.ireturn, 1) := by decide +kernel
theorem dX9_pour_22 : decode cX9_pour 22 = .ok (.iconst 0, 1) := by decide +kernel
theorem dX9_pour_23 : decode cX9_pour 23 = .ok (.istore_n 2, 1) := by decide +kernel
theorem dX9_pour_24 : decode cX9_pour 24 = .ok (.iconst 0, 1) := by decide +kernel
theorem dX9_pour_25 : decode cX9_pour 25 = .ok (.istore_n 3, 1) := by decide +kernel
theorem dX9_pour_26 : decode cX9_pour 26 = .ok (.iload_n 3, 1) := by decide +kernel
theorem dX9_pour_27 : decode cX9_pour 27 = .ok (.aload_n 0, 1) := by decide +kernel
theorem dX9_pour_28 : decode cX9_pour 28 = .ok (.getfield 51, 3) := by decide +kernel
theorem dX9_pour_31 : decode cX9_pour 31 = .ok (.iload_n 1, 1) := by decide +kernel
theorem dX9_pour_32 : decode cX9_pour 32 = .ok (.iaload, 1) := by decide +kernel
theorem dX9_pour_33 : decode cX9_pour 33 = .ok (.if_icmp .ge 80, 3) := by decide +kernel
theorem dX9_pour_36 : decode cX9_pour 36 = .ok (.iload_n 3, 1) := by decide +kernel
theorem dX9_pour_37 : decode cX9_pour 37 = .ok (.bipush 8, 2) := by decide +kernel
theorem dX9_pour_39 : decode cX9_pour 39 = .ok (.if_icmp .ge 74, 3) := by decide +kernel
theorem dX9_pour_42 : decode cX9_pour 42 = .ok (.aload_n 0, 1) := by decide +kernel
theorem dX9_pour_43 : decode cX9_pour 43 = .ok (.getfield 54, 3) := by decide +kernel
