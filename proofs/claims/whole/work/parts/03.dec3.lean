theorem dX8_check_94 : decode cX8_check 94 = .ok (.getfield 47, 3) := by decide +kernel
theorem dX8_check_97 : decode cX8_check 97 = .ok (.invokevirtual 298, 3) := by decide +kernel
theorem dX8_check_100 : decode cX8_check 100 = .ok (.aload_n 0, 1) := by decide +kernel
theorem dX8_check_101 : decode cX8_check 101 = .ok (.iconst 2, 1) := by decide +kernel
theorem dX8_check_102 : decode cX8_check 102 = .ok (.iload 4, 2) := by decide +kernel
theorem dX8_check_104 : decode cX8_check 104 = .ok (.imul, 1) := by decide +kernel
theorem dX8_check_105 : decode cX8_check 105 = .ok (.iload_n 2, 1) := by decide +kernel
theorem dX8_check_106 : decode cX8_check 106 = .ok (.aload_n 0, 1) := by decide +kernel
theorem dX8_check_107 : decode cX8_check 107 = .ok (.getfield 16, 3) := by decide +kernel
theorem dX8_check_110 : decode cX8_check 110 = .ok (.invokevirtual 173, 3) := by decide +kernel
theorem dX8_check_113 : decode cX8_check 113 = .ok (.invokevirtual 302, 3) := by decide +kernel
theorem dX8_check_116 : decode cX8_check 116 = .ok (.ifCond .ne 10, 3) := by decide +kernel
theorem dX8_check_119 : decode cX8_check 119 = .ok (.iconst 1, 1) := by decide +kernel
theorem dX8_check_120 : decode cX8_check 120 = .ok (.iconst 2, 1) := by decide +kernel
theorem dX8_check_121 : decode cX8_check 121 = .ok (.iload 4, 2) := by decide +kernel
theorem dX8_check_123 : decode cX8_check 123 = .ok (.imul, 1) := by decide +kernel
theorem dX8_check_124 : decode cX8_check 124 = .ok (.iadd, 1) := by decide +kernel
theorem dX8_check_125 : decode cX8_check 125 = .ok (.ireturn, 1) := by decide +kernel
theorem dX8_check_126 : decode cX8_check 126 = .ok (.aload_n 0, 1) := by decide +kernel
theorem dX8_check_127 : decode cX8_check 127 = .ok (.iconst 2, 1) := by decide +kernel
theorem dX8_check_128 : decode cX8_check 128 = .ok (.iload 4, 2) := by decide +kernel
theorem dX8_check_130 : decode cX8_check 130 = .ok (.imul, 1) := by decide +kernel
theorem dX8_check_131 : decode cX8_check 131 = .ok (.iconst 1, 1) := by decide +kernel
theorem dX8_check_132 : decode cX8_check 132 = .ok (.iadd, 1) := by decide +kernel
theorem dX8_check_133 : decode cX8_check 133 = .ok (.iload_n 2, 1) := by decide +kernel
theorem dX8_check_134 : decode cX8_check 134 = .ok (.aload_n 0, 1) := by decide +kernel
theorem dX8_check_135 : decode cX8_check 135 = .ok (.getfield 16, 3) := by decide +kernel
theorem dX8_check_138 : decode cX8_check 138 = .ok (.invokevirtual 163, 3) := by decide +kernel
theorem dX8_check_141 : decode cX8_check 141 = .ok (.invokevirtual 302, 3) := by decide +kernel
theorem dX8_check_144 : decode cX8_check 144 = .ok (.ifCond .ne 12, 3) := by decide +kernel
theorem dX8_check_147 : decode cX8_check 147 = .ok (.iconst 1, 1) := by decide +kernel
theorem dX8_check_148 : decode cX8_check 148 = .ok (.iconst 2, 1) := by decide +kernel
theorem dX8_check_149 : decode cX8_check 149 = .ok (.iload 4, 2) := by decide +kernel
theorem dX8_check_151 : decode cX8_check 151 = .ok (.imul, 1) := by decide +kernel
theorem dX8_check_152 : decode cX8_check 152 = .ok (.iadd, 1) := by decide +kernel
theorem dX8_check_153 : decode cX8_check 153 = .ok (.iconst 1, 1) := by decide +kernel
theorem dX8_check_154 : decode cX8_check 154 = .ok (.iadd, 1) := by decide +kernel
theorem dX8_check_155 : decode cX8_check 155 = .ok (.ireturn, 1) := by decide +kernel
theorem dX8_check_156 : decode cX8_check 156 = .ok (.iinc 4 1, 3) := by decide +kernel
theorem dX8_check_159 : decode cX8_check 159 = .ok (.goto (-76), 3) := by decide +kernel
theorem dX8_check_162 : decode cX8_check 162 = .ok (.iload_n 2, 1) := by decide +kernel
theorem dX8_check_163 : decode cX8_check 163 = .ok (.iconst 2, 1) := by decide +kernel
theorem dX8_check_164 : decode cX8_check 164 = .ok (.iload_n 3, 1) := by decide +kernel
theorem dX8_check_165 : decode cX8_check 165 = .ok (.imul, 1) := by decide +kernel
theorem dX8_check_166 : decode cX8_check 166 = .ok (.if_icmp .le 11, 3) := by decide +kernel
theorem dX8_check_169 : decode cX8_check 169 = .ok (.iconst 1, 1) := by decide +kernel
theorem dX8_check_170 : decode cX8_check 170 = .ok (.iconst 2, 1) := by decide +kernel
theorem dX8_check_171 : decode cX8_check 171 = .ok (.iload_n 3, 1) := by decide +kernel
theorem dX8_check_172 : decode cX8_check 172 = .ok (.imul, 1) := by decide +kernel
theorem dX8_check_173 : decode cX8_check 173 = .ok (.iadd, 1) := by decide +kernel
theorem dX8_check_174 : decode cX8_check 174 = .ok (.goto 4, 3) := by decide +kernel
theorem dX8_check_177 : decode cX8_check 177 = .ok (.iconst 0, 1) := by decide +kernel
theorem dX8_check_178 : decode cX8_check 178 = .ok (.ireturn, 1) := by decide +kernel
theorem dX8_keep_0 : decode cX8_keep 0 = .ok (.aload_n 0, 1) := by decide +kernel
theorem dX8_keep_1 : decode cX8_keep 1 = .ok (.getfield 19, 3) := by decide +kernel
theorem dX8_keep_4 : decode cX8_keep 4 = .ok (.aload_n 0, 1) := by decide +kernel
theorem dX8_keep_5 : decode cX8_keep 5 = .ok (.getfield 10, 3) := by decide +kernel
theorem dX8_keep_8 : decode cX8_keep 8 = .ok (.invokevirtual 295, 3) := by decide +kernel
theorem dX8_keep_11 : decode cX8_keep 11 = .ok (.aload_n 0, 1) := by decide +kernel
theorem dX8_keep_12 : decode cX8_keep 12 = .ok (.iconst 1, 1) := by decide +kernel
theorem dX8_keep_13 : decode cX8_keep 13 = .ok (.putfield 22, 3) := by decide +kernel
theorem dX8_keep_16 : decode cX8_keep 16 = .ok (.aload_n 0, 1) := by decide +kernel
theorem dX8_keep_17 : decode cX8_keep 17 = .ok (.getfield 19, 3) := by decide +kernel
theorem dX8_keep_20 : decode cX8_keep 20 = .ok (.getfield 82, 3) := by decide +kernel
theorem dX8_keep_23 : decode cX8_keep 23 = .ok (.ireturn, 1) := by decide +kernel
theorem dX8_back_0 : decode cX8_back 0 = .ok (.aload_n 0, 1) := by decide +kernel
theorem dX8_back_1 : decode cX8_back 1 = .ok (.getfield 22, 3) := by decide +kernel
theorem dX8_back_4 : decode cX8_back 4 = .ok (.ifCond .ne 7, 3) := by decide +kernel
theorem dX8_back_7 : decode cX8_back 7 = .ok (.ldc_w 294, 3) := by decide +kernel
theorem dX8_back_10 : decode cX8_back 10 = .ok (.ireturn, 1) := by decide +kernel
theorem dX8_back_11 : decode cX8_back 11 = .ok (.aload_n 0, 1) := by decide +kernel
theorem dX8_back_12 : decode cX8_back 12 = .ok (.getfield 10, 3) := by decide +kernel
theorem dX8_back_15 : decode cX8_back 15 = .ok (.aload_n 0, 1) := by decide +kernel
theorem dX8_back_16 : decode cX8_back 16 = .ok (.getfield 19, 3) := by decide +kernel
theorem dX8_back_19 : decode cX8_back 19 = .ok (.invokevirtual 295, 3) := by decide +kernel
theorem dX8_back_22 : decode cX8_back 22 = .ok (.aload_n 0, 1) := by decide +kernel
theorem dX8_back_23 : decode cX8_back 23 = .ok (.getfield 10, 3) := by decide +kernel
theorem dX8_back_26 : decode cX8_back 26 = .ok (.getfield 82, 3) := by decide +kernel
theorem dX8_back_29 : decode cX8_back 29 = .ok (.ireturn, 1) := by decide +kernel
theorem dX8_count_0 : decode cX8_count 0 = .ok (.iload_n 1, 1) := by decide +kernel
theorem dX8_count_1 : decode cX8_count 1 = .ok (.tableswitch 128 0 8 #[51, 59, 67, 75, 91, 99, 107, 112, 120], 51) := by decide +kernel
theorem dX8_count_52 : decode cX8_count 52 = .ok (.aload_n 0, 1) := by decide +kernel
theorem dX8_count_53 : decode cX8_count 53 = .ok (.getfield 10, 3) := by decide +kernel
theorem dX8_count_56 : decode cX8_count 56 = .ok (.getfield 82, 3) := by decide +kernel
theorem dX8_count_59 : decode cX8_count 59 = .ok (.ireturn, 1) := by decide +kernel
theorem dX8_count_60 : decode cX8_count 60 = .ok (.aload_n 0, 1) := by decide +kernel
theorem dX8_count_61 : decode cX8_count 61 = .ok (.getfield 10, 3) := by decide +kernel
theorem dX8_count_64 : decode cX8_count 64 = .ok (.getfield 166, 3) := by decide +kernel
theorem dX8_count_67 : decode cX8_count 67 = .ok (.ireturn, 1) := by decide +kernel
theorem dX8_count_68 : decode cX8_count 68 = .ok (.aload_n 0, 1) := by decide +kernel
theorem dX8_count_69 : decode cX8_count 69 = .ok (.getfield 10, 3) := by decide +kernel
theorem dX8_count_72 : decode cX8_count 72 = .ok (.getfield 142, 3) := by decide +kernel
theorem dX8_count_75 : decode cX8_count 75 = .ok (.ireturn, 1) := by decide +kernel
theorem dX8_count_76 : decode cX8_count 76 = .ok (.aload_n 0, 1) := by decide +kernel
theorem dX8_count_77 : decode cX8_count 77 = .ok (.getfield 10, 3) := by decide +kernel
theorem dX8_count_80 : decode cX8_count 80 = .ok (.getfield 145, 3) := by decide +kernel
theorem dX8_count_83 : decode cX8_count 83 = .ok (.ifCond .eq 7, 3) := by decide +kernel
theorem dX8_count_86 : decode cX8_count 86 = .ok (.iconst 1, 1) := by decide +kernel
theorem dX8_count_87 : decode cX8_count 87 = .ok (.goto 4, 3) := by decide +kernel
theorem dX8_count_90 : decode cX8_count 90 = .ok (.iconst 0, 1) := by decide +kernel
theorem dX8_count_91 : decode cX8_count 91 = .ok (.ireturn, 1) := by decide +kernel
theorem dX8_count_92 : decode cX8_count 92 = .ok (.aload_n 0, 1) := by decide +kernel
theorem dX8_count_93 : decode cX8_count 93 = .ok (.getfield 10, 3) := by decide +kernel
theorem dX8_count_96 : decode cX8_count 96 = .ok (.getfield 148, 3) := by decide +kernel
theorem dX8_count_99 : decode cX8_count 99 = .ok (.ireturn, 1) := by decide +kernel
theorem dX8_count_100 : decode cX8_count 100 = .ok (.aload_n 0, 1) := by decide +kernel
theorem dX8_count_101 : decode cX8_count 101 = .ok (.getfield 10, 3) := by decide +kernel
theorem dX8_count_104 : decode cX8_count 104 = .ok (.getfield 117, 3) := by decide +kernel
theorem dX8_count_107 : decode cX8_count 107 = .ok (.ireturn, 1) := by decide +kernel
theorem dX8_count_108 : decode cX8_count 108 = .ok (.aload_n 0, 1) := by decide +kernel
theorem dX8_count_109 : decode cX8_count 109 = .ok (.getfield 67, 3) := by decide +kernel
theorem dX8_count_112 : decode cX8_count 112 = .ok (.ireturn, 1) := by decide +kernel
theorem dX8_count_113 : decode cX8_count 113 = .ok (.aload_n 0, 1) := by decide +kernel
theorem dX8_count_114 : decode cX8_count 114 = .ok (.getfield 37, 3) := by decide +kernel
theorem dX8_count_117 : decode cX8_count 117 = .ok (.getfield 217, 3) := by decide +kernel
theorem dX8_count_120 : decode cX8_count 120 = .ok (.ireturn, 1) := by decide +kernel
theorem dX8_count_121 : decode cX8_count 121 = .ok (.aload_n 0, 1) := by decide +kernel
theorem dX8_count_122 : decode cX8_count 122 = .ok (.getfield 10, 3) := by decide +kernel
theorem dX8_count_125 : decode cX8_count 125 = .ok (.getfield 160, 3) := by decide +kernel
theorem dX8_count_128 : decode cX8_count 128 = .ok (.ireturn, 1) := by decide +kernel
theorem dX8_count_129 : decode cX8_count 129 = .ok (.ldc 81, 2) := by decide +kernel
theorem dX8_count_131 : decode cX8_count 131 = .ok (.ireturn, 1) := by decide +kernel
theorem dX8_within_0 : decode cX8_within 0 = .ok (.iload_n 0, 1) := by decide +kernel
theorem dX8_within_1 : decode cX8_within 1 = .ok (.iload_n 1, 1) := by decide +kernel
theorem dX8_within_2 : decode cX8_within 2 = .ok (.if_icmp .lt 12, 3) := by decide +kernel
theorem dX8_within_5 : decode cX8_within 5 = .ok (.iload_n 0, 1) := by decide +kernel
theorem dX8_within_6 : decode cX8_within 6 = .ok (.iload_n 2, 1) := by decide +kernel
theorem dX8_within_7 : decode cX8_within 7 = .ok (.if_icmp .gt 7, 3) := by decide +kernel
theorem dX8_within_10 : decode cX8_within 10 = .ok (.iconst 1, 1) := by decide +kernel
theorem dX8_within_11 : decode cX8_within 11 = .ok (.goto 4, 3) := by decide +kernel
theorem dX8_within_14 : decode cX8_within 14 = .ok (.iconst 0, 1) := by decide +kernel
theorem dX8_within_15 : decode cX8_within 15 = .ok (.ireturn, 1) := by decide +kernel
theorem dX8_held_0 : decode cX8_held 0 = .ok (.iload_n 0, 1) := by decide +kernel
theorem dX8_held_1 : decode cX8_held 1 = .ok (.iload_n 1, 1) := by decide +kernel
theorem dX8_held_2 : decode cX8_held 2 = .ok (.if_icmp .ge 7, 3) := by decide +kernel
theorem dX8_held_5 : decode cX8_held 5 = .ok (.iload_n 1, 1) := by decide +kernel
theorem dX8_held_6 : decode cX8_held 6 = .ok (.goto 13, 3) := by decide +kernel
theorem dX8_held_9 : decode cX8_held 9 = .ok (.iload_n 0, 1) := by decide +kernel
theorem dX8_held_10 : decode cX8_held 10 = .ok (.iload_n 2, 1) := by decide +kernel
theorem dX8_held_11 : decode cX8_held 11 = .ok (.if_icmp .le 7, 3) := by decide +kernel
theorem dX8_held_14 : decode cX8_held 14 = .ok (.iload_n 2, 1) := by decide +kernel
theorem dX8_held_15 : decode cX8_held 15 = .ok (.goto 4, 3) := by decide +kernel
theorem dX8_held_18 : decode cX8_held 18 = .ok (.iload_n 0, 1) := by decide +kernel
theorem dX8_held_19 : decode cX8_held 19 = .ok (.ireturn, 1) := by decide +kernel
theorem dX8_isKind_0 : decode cX8_isKind 0 = .ok (.iload_n 0, 1) := by decide +kernel
theorem dX8_isKind_1 : decode cX8_isKind 1 = .ok (.iconst 0, 1) := by decide +kernel
theorem dX8_isKind_2 : decode cX8_isKind 2 = .ok (.iconst 5, 1) := by decide +kernel
theorem dX8_isKind_3 : decode cX8_isKind 3 = .ok (.invokestatic 77, 3) := by decide +kernel
theorem dX8_isKind_6 : decode cX8_isKind 6 = .ok (.ireturn, 1) := by decide +kernel
theorem dX8_isCorner_0 : decode cX8_isCorner 0 = .ok (.iload_n 0, 1) := by decide +kernel
theorem dX8_isCorner_1 : decode cX8_isCorner 1 = .ok (.iconst 0, 1) := by decide +kernel
theorem dX8_isCorner_2 : decode cX8_isCorner 2 = .ok (.bipush 7, 2) := by decide +kernel
theorem dX8_isCorner_4 : decode cX8_isCorner 4 = .ok (.invokestatic 77, 3) := by decide +kernel
theorem dX8_isCorner_7 : decode cX8_isCorner 7 = .ok (.ireturn, 1) := by decide +kernel
theorem dX8_isSheet_0 : decode cX8_isSheet 0 = .ok (.iload_n 0, 1) := by decide +kernel
theorem dX8_isSheet_1 : decode cX8_isSheet 1 = .ok (.iconst 0, 1) := by decide +kernel
theorem dX8_isSheet_2 : decode cX8_isSheet 2 = .ok (.iconst 3, 1) := by decide +kernel
theorem dX8_isSheet_3 : decode cX8_isSheet 3 = .ok (.invokestatic 77, 3) := by decide +kernel
theorem dX8_isSheet_6 : decode cX8_isSheet 6 = .ok (.ireturn, 1) := by decide +kernel
theorem dX8_isSlot_0 : decode cX8_isSlot 0 = .ok (.iload_n 0, 1) := by decide +kernel
theorem dX8_isSlot_1 : decode cX8_isSlot 1 = .ok (.iconst 0, 1) := by decide +kernel
theorem dX8_isSlot_2 : decode cX8_isSlot 2 = .ok (.iconst 4, 1) := by decide +kernel
theorem dX8_isSlot_3 : decode cX8_isSlot 3 = .ok (.invokestatic 77, 3) := by decide +kernel
theorem dX8_isSlot_6 : decode cX8_isSlot 6 = .ok (.ireturn, 1) := by decide +kernel
theorem dX8_isBeggar_0 : decode cX8_isBeggar 0 = .ok (.iload_n 1, 1) := by decide +kernel
theorem dX8_isBeggar_1 : decode cX8_isBeggar 1 = .ok (.iconst 0, 1) := by decide +kernel
theorem dX8_isBeggar_2 : decode cX8_isBeggar 2 = .ok (.aload_n 0, 1) := by decide +kernel
theorem dX8_isBeggar_3 : decode cX8_isBeggar 3 = .ok (.getfield 10, 3) := by decide +kernel
theorem dX8_isBeggar_6 : decode cX8_isBeggar 6 = .ok (.getfield 82, 3) := by decide +kernel
theorem dX8_isBeggar_9 : decode cX8_isBeggar 9 = .ok (.iconst 1, 1) := by decide +kernel
theorem dX8_isBeggar_10 : decode cX8_isBeggar 10 = .ok (.isub, 1) := by decide +kernel
theorem dX8_isBeggar_11 : decode cX8_isBeggar 11 = .ok (.invokestatic 77, 3) := by decide +kernel
theorem dX8_isBeggar_14 : decode cX8_isBeggar 14 = .ok (.ireturn, 1) := by decide +kernel
theorem dX8_stands_0 : decode cX8_stands 0 = .ok (.iload_n 1, 1) := by decide +kernel
theorem dX8_stands_1 : decode cX8_stands 1 = .ok (.iload_n 2, 1) := by decide +kernel
theorem dX8_stands_2 : decode cX8_stands 2 = .ok (.if_icmp .ge 17, 3) := by decide +kernel
theorem dX8_stands_5 : decode cX8_stands 5 = .ok (.aload_n 0, 1) := by decide +kernel
theorem dX8_stands_6 : decode cX8_stands 6 = .ok (.getfield 63, 3) := by decide +kernel
theorem dX8_stands_9 : decode cX8_stands 9 = .ok (.iload_n 1, 1) := by decide +kernel
theorem dX8_stands_10 : decode cX8_stands 10 = .ok (.iaload, 1) := by decide +kernel
theorem dX8_stands_11 : decode cX8_stands 11 = .ok (.iload_n 3, 1) := by decide +kernel
theorem dX8_stands_12 : decode cX8_stands 12 = .ok (.if_icmp .ne 7, 3) := by decide +kernel
theorem dX8_stands_15 : decode cX8_stands 15 = .ok (.iconst 1, 1) := by decide +kernel
theorem dX8_stands_16 : decode cX8_stands 16 = .ok (.goto 4, 3) := by decide +kernel
theorem dX8_stands_19 : decode cX8_stands 19 = .ok (.iconst 0, 1) := by decide +kernel
theorem dX8_stands_20 : decode cX8_stands 20 = .ok (.ireturn, 1) := by decide +kernel
theorem dX8_lastOf_0 : decode cX8_lastOf 0 = .ok (.iload_n 2, 1) := by decide +kernel
theorem dX8_lastOf_1 : decode cX8_lastOf 1 = .ok (.bipush 14, 2) := by decide +kernel
theorem dX8_lastOf_3 : decode cX8_lastOf 3 = .ok (.invokestatic 151, 3) := by decide +kernel
theorem dX8_lastOf_6 : decode cX8_lastOf 6 = .ok (.iconst 1, 1) := by decide +kernel
theorem dX8_lastOf_7 : decode cX8_lastOf 7 = .ok (.isub, 1) := by decide +kernel
theorem dX8_lastOf_8 : decode cX8_lastOf 8 = .ok (.istore_n 3, 1) := by decide +kernel
theorem dX8_lastOf_9 : decode cX8_lastOf 9 = .ok (.iload_n 3, 1) := by decide +kernel
theorem dX8_lastOf_10 : decode cX8_lastOf 10 = .ok (.ifCond .lt 33, 3) := by decide +kernel
theorem dX8_lastOf_13 : decode cX8_lastOf 13 = .ok (.aload_n 0, 1) := by decide +kernel
theorem dX8_lastOf_14 : decode cX8_lastOf 14 = .ok (.getfield 40, 3) := by decide +kernel
theorem dX8_lastOf_17 : decode cX8_lastOf 17 = .ok (.iload_n 3, 1) := by decide +kernel
theorem dX8_lastOf_18 : decode cX8_lastOf 18 = .ok (.aaload, 1) := by decide +kernel
theorem dX8_lastOf_19 : decode cX8_lastOf 19 = .ok (.ifnull 18, 3) := by decide +kernel
theorem dX8_lastOf_22 : decode cX8_lastOf 22 = .ok (.aload_n 0, 1) := by decide +kernel
theorem dX8_lastOf_23 : decode cX8_lastOf 23 = .ok (.getfield 40, 3) := by decide +kernel
theorem dX8_lastOf_26 : decode cX8_lastOf 26 = .ok (.iload_n 3, 1) := by decide +kernel
theorem dX8_lastOf_27 : decode cX8_lastOf 27 = .ok (.aaload, 1) := by decide +kernel
theorem dX8_lastOf_28 : decode cX8_lastOf 28 = .ok (.getfield 230, 3) := by decide +kernel
theorem dX8_lastOf_31 : decode cX8_lastOf 31 = .ok (.iload_n 1, 1) := by decide +kernel
theorem dX8_lastOf_32 : decode cX8_lastOf 32 = .ok (.if_icmp .ne 5, 3) := by decide +kernel
theorem dX8_lastOf_35 : decode cX8_lastOf 35 = .ok (.iload_n 3, 1) := by decide +kernel
theorem dX8_lastOf_36 : decode cX8_lastOf 36 = .ok (.ireturn, 1) := by decide +kernel
theorem dX8_lastOf_37 : decode cX8_lastOf 37 = .ok (.iinc 3 (-1), 3) := by decide +kernel
theorem dX8_lastOf_40 : decode cX8_lastOf 40 = .ok (.goto (-31), 3) := by decide +kernel
theorem dX8_lastOf_43 : decode cX8_lastOf 43 = .ok (.iconst (-1), 1) := by decide +kernel
theorem dX8_lastOf_44 : decode cX8_lastOf 44 = .ok (.ireturn, 1) := by decide +kernel
theorem dX8_counting_0 : decode cX8_counting 0 = .ok (.aload_n 0, 1) := by decide +kernel
theorem dX8_counting_1 : decode cX8_counting 1 = .ok (.iload_n 1, 1) := by decide +kernel
theorem dX8_counting_2 : decode cX8_counting 2 = .ok (.iload_n 2, 1) := by decide +kernel
theorem dX8_counting_3 : decode cX8_counting 3 = .ok (.invokevirtual 236, 3) := by decide +kernel
theorem dX8_counting_6 : decode cX8_counting 6 = .ok (.istore_n 3, 1) := by decide +kernel
theorem dX8_counting_7 : decode cX8_counting 7 = .ok (.iload_n 3, 1) := by decide +kernel
theorem dX8_counting_8 : decode cX8_counting 8 = .ok (.ifCond .ge 7, 3) := by decide +kernel
theorem dX8_counting_11 : decode cX8_counting 11 = .ok (.aconst_null, 1) := by decide +kernel
theorem dX8_counting_12 : decode cX8_counting 12 = .ok (.goto 9, 3) := by decide +kernel
theorem dX8_counting_15 : decode cX8_counting 15 = .ok (.aload_n 0, 1) := by decide +kernel
theorem dX8_counting_16 : decode cX8_counting 16 = .ok (.getfield 40, 3) := by decide +kernel
theorem dX8_counting_19 : decode cX8_counting 19 = .ok (.iload_n 3, 1) := by decide +kernel
theorem dX8_counting_20 : decode cX8_counting 20 = .ok (.aaload, 1) := by decide +kernel
theorem dX8_counting_21 : decode cX8_counting 21 = .ok (.areturn, 1) := by decide +kernel
theorem dX8_think_0 : decode cX8_think 0 = .ok (.aload_n 0, 1) := by decide +kernel
theorem dX8_think_1 : decode cX8_think 1 = .ok (.getfield 16, 3) := by decide +kernel
theorem dX8_think_4 : decode cX8_think 4 = .ok (.aload_n 0, 1) := by decide +kernel
theorem dX8_think_5 : decode cX8_think 5 = .ok (.getfield 10, 3) := by decide +kernel
theorem dX8_think_8 : decode cX8_think 8 = .ok (.invokevirtual 295, 3) := by decide +kernel
theorem dX8_think_11 : decode cX8_think 11 = .ok (.aload_n 0, 1) := by decide +kernel
theorem dX8_think_12 : decode cX8_think 12 = .ok (.getfield 47, 3) := by decide +kernel
theorem dX8_think_15 : decode cX8_think 15 = .ok (.aload_n 0, 1) := by decide +kernel
theorem dX8_think_16 : decode cX8_think 16 = .ok (.iconst 0, 1) := by decide +kernel
theorem dX8_think_17 : decode cX8_think 17 = .ok (.aload_n 0, 1) := by decide +kernel
theorem dX8_think_18 : decode cX8_think 18 = .ok (.getfield 10, 3) := by decide +kernel
theorem dX8_think_21 : decode cX8_think 21 = .ok (.getfield 117, 3) := by decide +kernel
theorem dX8_think_24 : decode cX8_think 24 = .ok (.invokevirtual 119, 3) := by decide +kernel
theorem dX8_think_27 : decode cX8_think 27 = .ok (.invokevirtual 123, 3) := by decide +kernel
theorem dX8_think_30 : decode cX8_think 30 = .ok (.return_, 1) := by decide +kernel
theorem dX8_differences_0 : decode cX8_differences 0 = .ok (.aload_n 0, 1) := by decide +kernel
theorem dX8_differences_1 : decode cX8_differences 1 = .ok (.invokevirtual 185, 3) := by decide +kernel
theorem dX8_differences_4 : decode cX8_differences 4 = .ok (.aload_n 0, 1) := by decide +kernel
theorem dX8_differences_5 : decode cX8_differences 5 = .ok (.getfield 16, 3) := by decide +kernel
theorem dX8_differences_8 : decode cX8_differences 8 = .ok (.getfield 96, 3) := by decide +kernel
theorem dX8_differences_11 : decode cX8_differences 11 = .ok (.iload_n 2, 1) := by decide +kernel
theorem dX8_differences_12 : decode cX8_differences 12 = .ok (.iload_n 3, 1) := by decide +kernel
theorem dX8_differences_13 : decode cX8_differences 13 = .ok (.iastore, 1) := by decide +kernel
theorem dX8_differences_14 : decode cX8_differences 14 = .ok (.iconst 0, 1) := by decide +kernel
theorem dX8_differences_15 : decode cX8_differences 15 = .ok (.istore 4, 2) := by decide +kernel
theorem dX8_differences_17 : decode cX8_differences 17 = .ok (.iconst 0, 1) := by decide +kernel
theorem dX8_differences_18 : decode cX8_differences 18 = .ok (.istore 5, 2) := by decide +kernel
theorem dX8_differences_20 : decode cX8_differences 20 = .ok (.iload 5, 2) := by decide +kernel
theorem dX8_differences_22 : decode cX8_differences 22 = .ok (.aload_n 1, 1) := by decide +kernel
theorem dX8_differences_23 : decode cX8_differences 23 = .ok (.getfield 255, 3) := by decide +kernel
theorem dX8_differences_26 : decode cX8_differences 26 = .ok (.if_icmp .ge 59, 3) := by decide +kernel
theorem dX8_differences_29 : decode cX8_differences 29 = .ok (.iload 5, 2) := by decide +kernel
theorem dX8_differences_31 : decode cX8_differences 31 = .ok (.ifCond .le 14, 3) := by decide +kernel
theorem dX8_differences_34 : decode cX8_differences 34 = .ok (.aload_n 0, 1) := by decide +kernel
theorem dX8_differences_35 : decode cX8_differences 35 = .ok (.getfield 16, 3) := by decide +kernel
theorem dX8_differences_38 : decode cX8_differences 38 = .ok (.aload_n 0, 1) := by decide +kernel
theorem dX8_differences_39 : decode cX8_differences 39 = .ok (.getfield 47, 3) := by decide +kernel
theorem dX8_differences_42 : decode cX8_differences 42 = .ok (.invokevirtual 298, 3) := by decide +kernel
theorem dX8_differences_45 : decode cX8_differences 45 = .ok (.aload_n 1, 1) := by decide +kernel
theorem dX8_differences_46 : decode cX8_differences 46 = .ok (.iload 5, 2) := by decide +kernel
theorem dX8_differences_48 : decode cX8_differences 48 = .ok (.invokevirtual 256, 3) := by decide +kernel
theorem dX8_differences_51 : decode cX8_differences 51 = .ok (.ifCond .eq 28, 3) := by decide +kernel
theorem dX8_differences_54 : decode cX8_differences 54 = .ok (.iload 4, 2) := by decide +kernel
theorem dX8_differences_56 : decode cX8_differences 56 = .ok (.aload_n 0, 1) := by decide +kernel
theorem dX8_differences_57 : decode cX8_differences 57 = .ok (.getfield 16, 3) := by decide +kernel
theorem dX8_differences_60 : decode cX8_differences 60 = .ok (.getfield 102, 3) := by decide +kernel
theorem dX8_differences_63 : decode cX8_differences 63 = .ok (.iload_n 2, 1) := by decide +kernel
theorem dX8_differences_64 : decode cX8_differences 64 = .ok (.iaload, 1) := by decide +kernel
theorem dX8_differences_65 : decode cX8_differences 65 = .ok (.aload_n 1, 1) := by decide +kernel
theorem dX8_differences_66 : decode cX8_differences 66 = .ok (.getfield 252, 3) := by decide +kernel
theorem dX8_differences_69 : decode cX8_differences 69 = .ok (.iload 5, 2) := by decide +kernel
theorem dX8_differences_71 : decode cX8_differences 71 = .ok (.iaload, 1) := by decide +kernel
theorem dX8_differences_72 : decode cX8_differences 72 = .ok (.isub, 1) := by decide +kernel
theorem dX8_differences_73 : decode cX8_differences 73 = .ok (.invokestatic 305, 3) := by decide +kernel
theorem dX8_differences_76 : decode cX8_differences 76 = .ok (.iadd, 1) := by decide +kernel
theorem dX8_differences_77 : decode cX8_differences 77 = .ok (.istore 4, 2) := by decide +kernel
theorem dX8_differences_79 : decode cX8_differences 79 = .ok (.iinc 5 1, 3) := by decide +kernel
theorem dX8_differences_82 : decode cX8_differences 82 = .ok (.goto (-62), 3) := by decide +kernel
theorem dX8_differences_85 : decode cX8_differences 85 = .ok (.iload 4, 2) := by decide +kernel
theorem dX8_differences_87 : decode cX8_differences 87 = .ok (.ireturn, 1) := by decide +kernel
theorem dX9_init_0 : decode cX9_init 0 = .ok (.aload_n 0, 1) := by decide +kernel
theorem dX9_init_1 : decode cX9_init 1 = .ok (.invokespecial 1, 3) := by decide +kernel
theorem dX9_init_4 : decode cX9_init 4 = .ok (.aload_n 0, 1) := by decide +kernel
theorem dX9_init_5 : decode cX9_init 5 = .ok (.sipush 1433, 3) := by decide +kernel
theorem dX9_init_8 : decode cX9_init 8 = .ok (.newarray .int, 2) := by decide +kernel
theorem dX9_init_10 : decode cX9_init 10 = .ok (.putfield 9, 3) := by decide +kernel
theorem dX9_init_13 : decode cX9_init 13 = .ok (.aload_n 0, 1) := by decide +kernel
theorem dX9_init_14 : decode cX9_init 14 = .ok (.sipush 1433, 3) := by decide +kernel
theorem dX9_init_17 : decode cX9_init 17 = .ok (.newarray .int, 2) := by decide +kernel
theorem dX9_init_19 : decode cX9_init 19 = .ok (.putfield 13, 3) := by decide +kernel
theorem dX9_init_22 : decode cX9_init 22 = .ok (.aload_n 0, 1) := by decide +kernel
theorem dX9_init_23 : decode cX9_init 23 = .ok (.sipush 1433, 3) := by decide +kernel
theorem dX9_init_26 : decode cX9_init 26 = .ok (.newarray .int, 2) := by decide +kernel
theorem dX9_init_28 : decode cX9_init 28 = .ok (.putfield 16, 3) := by decide +kernel
theorem dX9_init_31 : decode cX9_init 31 = .ok (.aload_n 0, 1) := by decide +kernel
theorem dX9_init_32 : decode cX9_init 32 = .ok (.bipush 61, 2) := by decide +kernel
theorem dX9_init_34 : decode cX9_init 34 = .ok (.newarray .int, 2) := by decide +kernel
theorem dX9_init_36 : decode cX9_init 36 = .ok (.putfield 19, 3) := by decide +kernel
theorem dX9_init_39 : decode cX9_init 39 = .ok (.aload_n 0, 1) := by decide +kernel
theorem dX9_init_40 : decode cX9_init 40 = .ok (.bipush 96, 2) := by decide +kernel
theorem dX9_init_42 : decode cX9_init 42 = .ok (.newarray .int, 2) := by decide +kernel
theorem dX9_init_44 : decode cX9_init 44 = .ok (.putfield 22, 3) := by decide +kernel
theorem dX9_init_47 : decode cX9_init 47 = .ok (.aload_n 0, 1) := by decide +kernel
theorem dX9_init_48 : decode cX9_init 48 = .ok (.bipush 11, 2) := by decide +kernel
theorem dX9_init_50 : decode cX9_init 50 = .ok (.newarray .char, 2) := by decide +kernel
theorem dX9_init_52 : decode cX9_init 52 = .ok (.dup, 1) := by decide +kernel
theorem dX9_init_53 : decode cX9_init 53 = .ok (.iconst 0, 1) := by decide +kernel
theorem dX9_init_54 : decode cX9_init 54 = .ok (.bipush 97, 2) := by decide +kernel
theorem dX9_init_56 : decode cX9_init 56 = .ok (.castore, 1) := by decide +kernel
theorem dX9_init_57 : decode cX9_init 57 = .ok (.dup, 1) := by decide +kernel
theorem dX9_init_58 : decode cX9_init 58 = .ok (.iconst 1, 1) := by decide +kernel
theorem dX9_init_59 : decode cX9_init 59 = .ok (.bipush 108, 2) := by decide +kernel
theorem dX9_init_61 : decode cX9_init 61 = .ok (.castore, 1) := by decide +kernel
theorem dX9_init_62 : decode cX9_init 62 = .ok (.dup, 1) := by decide +kernel
theorem dX9_init_63 : decode cX9_init 63 = .ok (.iconst 2, 1) := by decide +kernel
theorem dX9_init_64 : decode cX9_init 64 = .ok (.bipush 109, 2) := by decide +kernel
theorem dX9_init_66 : decode cX9_init 66 = .ok (.castore, 1) := by decide +kernel
theorem dX9_init_67 : decode cX9_init 67 = .ok (.dup, 1) := by decide +kernel
theorem dX9_init_68 : decode cX9_init 68 = .ok (.iconst 3, 1) := by decide +kernel
theorem dX9_init_69 : decode cX9_init 69 = .ok (.bipush 115, 2) := by decide +kernel
theorem dX9_init_71 : decode cX9_init 71 = .ok (.castore, 1) := by decide +kernel
theorem dX9_init_72 : decode cX9_init 72 = .ok (.dup, 1) := by decide +kernel
theorem dX9_init_73 : decode cX9_init 73 = .ok (.iconst 4, 1) := by decide +kernel
theorem dX9_init_74 : decode cX9_init 74 = .ok (.bipush 102, 2) := by decide +kernel
theorem dX9_init_76 : decode cX9_init 76 = .ok (.castore, 1) := by decide +kernel
theorem dX9_init_77 : decode cX9_init 77 = .ok (.dup, 1) := by decide +kernel
theorem dX9_init_78 : decode cX9_init 78 = .ok (.iconst 5, 1) := by decide +kernel
theorem dX9_init_79 : decode cX9_init 79 = .ok (.bipush 101, 2) := by decide +kernel
theorem dX9_init_81 : decode cX9_init 81 = .ok (.castore, 1) := by decide +kernel
theorem dX9_init_82 : decode cX9_init 82 = .ok (.dup, 1) := by decide +kernel
theorem dX9_init_83 : decode cX9_init 83 = .ok (.bipush 6, 2) := by decide +kernel
theorem dX9_init_85 : decode cX9_init 85 = .ok (.bipush 101, 2) := by decide +kernel
theorem dX9_init_87 : decode cX9_init 87 = .ok (.castore, 1) := by decide +kernel
theorem dX9_init_88 : decode cX9_init 88 = .ok (.dup, 1) := by decide +kernel
theorem dX9_init_89 : decode cX9_init 89 = .ok (.bipush 7, 2) := by decide +kernel
theorem dX9_init_91 : decode cX9_init 91 = .ok (.bipush 102, 2) := by decide +kernel
theorem dX9_init_93 : decode cX9_init 93 = .ok (.castore, 1) := by decide +kernel
theorem dX9_init_94 : decode cX9_init 94 = .ok (.dup, 1) := by decide +kernel
theorem dX9_init_95 : decode cX9_init 95 = .ok (.bipush 8, 2) := by decide +kernel
theorem dX9_init_97 : decode cX9_init 97 = .ok (.bipush 105, 2) := by decide +kernel
theorem dX9_init_99 : decode cX9_init 99 = .ok (.castore, 1) := by decide +kernel
theorem dX9_init_100 : decode cX9_init 100 = .ok (.dup, 1) := by decide +kernel
theorem dX9_init_101 : decode cX9_init 101 = .ok (.bipush 9, 2) := by decide +kernel
theorem dX9_init_103 : decode cX9_init 103 = .ok (.bipush 110, 2) := by decide +kernel
theorem dX9_init_105 : decode cX9_init 105 = .ok (.castore, 1) := by decide +kernel
theorem dX9_init_106 : decode cX9_init 106 = .ok (.dup, 1) := by decide +kernel
theorem dX9_init_107 : decode cX9_init 107 = .ok (.bipush 10, 2) := by decide +kernel
theorem dX9_init_109 : decode cX9_init 109 = .ok (.bipush 101, 2) := by decide +kernel
theorem dX9_init_111 : decode cX9_init 111 = .ok (.castore, 1) := by decide +kernel
theorem dX9_init_112 : decode cX9_init 112 = .ok (.putfield 25, 3) := by decide +kernel
theorem dX9_init_115 : decode cX9_init 115 = .ok (.aload_n 0, 1) := by decide +kernel
theorem dX9_init_116 : decode cX9_init 116 = .ok (.iconst 4, 1) := by decide +kernel
theorem dX9_init_117 : decode cX9_init 117 = .ok (.newarray .int, 2) := by decide +kernel
theorem dX9_init_119 : decode cX9_init 119 = .ok (.dup, 1) := by decide +kernel
theorem dX9_init_120 : decode cX9_init 120 = .ok (.iconst 0, 1) := by decide +kernel
theorem dX9_init_121 : decode cX9_init 121 = .ok (.iconst 0, 1) := by decide +kernel
theorem dX9_init_122 : decode cX9_init 122 = .ok (.iastore, 1) := by decide +kernel
theorem dX9_init_123 : decode cX9_init 123 = .ok (.dup, 1) := by decide +kernel
theorem dX9_init_124 : decode cX9_init 124 = .ok (.iconst 1, 1) := by decide +kernel
theorem dX9_init_125 : decode cX9_init 125 = .ok (.iconst 4, 1) := by decide +kernel
theorem dX9_init_126 : decode cX9_init 126 = .ok (.iastore, 1) := by decide +kernel
theorem dX9_init_127 : decode cX9_init 127 = .ok (.dup, 1) := by decide +kernel
theorem dX9_init_128 : decode cX9_init 128 = .ok (.iconst 2, 1) := by decide +kernel
theorem dX9_init_129 : decode cX9_init 129 = .ok (.bipush 7, 2) := by decide +kernel
theorem dX9_init_131 : decode cX9_init 131 = .ok (.iastore, 1) := by decide +kernel
theorem dX9_init_132 : decode cX9_init 132 = .ok (.dup, 1) := by decide +kernel
theorem dX9_init_133 : decode cX9_init 133 = .ok (.iconst 3, 1) := by decide +kernel
theorem dX9_init_134 : decode cX9_init 134 = .ok (.bipush 11, 2) := by decide +kernel
theorem dX9_init_136 : decode cX9_init 136 = .ok (.iastore, 1) := by decide +kernel
theorem dX9_init_137 : decode cX9_init 137 = .ok (.putfield 29, 3) := by decide +kernel
theorem dX9_init_140 : decode cX9_init 140 = .ok (.aload_n 0, 1) := by decide +kernel
theorem dX9_init_141 : decode cX9_init 141 = .ok (.bipush 96, 2) := by decide +kernel
theorem dX9_init_143 : decode cX9_init 143 = .ok (.newarray .int, 2) := by decide +kernel
theorem dX9_init_145 : decode cX9_init 145 = .ok (.putfield 32, 3) := by decide +kernel
theorem dX9_init_148 : decode cX9_init 148 = .ok (.aload_n 0, 1) := by decide +kernel
theorem dX9_init_149 : decode cX9_init 149 = .ok (.bipush 96, 2) := by decide +kernel
theorem dX9_init_151 : decode cX9_init 151 = .ok (.newarray .int, 2) := by decide +kernel
theorem dX9_init_153 : decode cX9_init 153 = .ok (.putfield 35, 3) := by decide +kernel
theorem dX9_init_156 : decode cX9_init 156 = .ok (.aload_n 0, 1) := by decide +kernel
theorem dX9_init_157 : decode cX9_init 157 = .ok (.bipush 10, 2) := by decide +kernel
theorem dX9_init_159 : decode cX9_init 159 = .ok (.newarray .boolean, 2) := by decide +kernel
theorem dX9_init_161 : decode cX9_init 161 = .ok (.putfield 38, 3) := by decide +kernel
theorem dX9_init_164 : decode cX9_init 164 = .ok (.aload_n 0, 1) := by decide +kernel
theorem dX9_init_165 : decode cX9_init 165 = .ok (.bipush 96, 2) := by decide +kernel
theorem dX9_init_167 : decode cX9_init 167 = .ok (.newarray .int, 2) := by decide +kernel
theorem dX9_init_169 : decode cX9_init 169 = .ok (.putfield 42, 3) := by decide +kernel
theorem dX9_init_172 : decode cX9_init 172 = .ok (.aload_n 0, 1) := by decide +kernel
theorem dX9_init_173 : decode cX9_init 173 = .ok (.iconst 4, 1) := by decide +kernel
theorem dX9_init_174 : decode cX9_init 174 = .ok (.newarray .int, 2) := by decide +kernel
theorem dX9_init_176 : decode cX9_init 176 = .ok (.putfield 45, 3) := by decide +kernel
theorem dX9_init_179 : decode cX9_init 179 = .ok (.aload_n 0, 1) := by decide +kernel
theorem dX9_init_180 : decode cX9_init 180 = .ok (.iconst 4, 1) := by decide +kernel
theorem dX9_init_181 : decode cX9_init 181 = .ok (.newarray .int, 2) := by decide +kernel
theorem dX9_init_183 : decode cX9_init 183 = .ok (.dup, 1) := by decide +kernel
theorem dX9_init_184 : decode cX9_init 184 = .ok (.iconst 0, 1) := by decide +kernel
theorem dX9_init_185 : decode cX9_init 185 = .ok (.iconst (-1), 1) := by decide +kernel
theorem dX9_init_186 : decode cX9_init 186 = .ok (.iastore, 1) := by decide +kernel
theorem dX9_init_187 : decode cX9_init 187 = .ok (.dup, 1) := by decide +kernel
theorem dX9_init_188 : decode cX9_init 188 = .ok (.iconst 1, 1) := by decide +kernel
theorem dX9_init_189 : decode cX9_init 189 = .ok (.iconst (-1), 1) := by decide +kernel
theorem dX9_init_190 : decode cX9_init 190 = .ok (.iastore, 1) := by decide +kernel
theorem dX9_init_191 : decode cX9_init 191 = .ok (.dup, 1) := by decide +kernel
theorem dX9_init_192 : decode cX9_init 192 = .ok (.iconst 2, 1) := by decide +kernel
theorem dX9_init_193 : decode cX9_init 193 = .ok (.iconst (-1), 1) := by decide +kernel
theorem dX9_init_194 : decode cX9_init 194 = .ok (.iastore, 1) := by decide +kernel
theorem dX9_init_195 : decode cX9_init 195 = .ok (.dup, 1) := by decide +kernel
theorem dX9_init_196 : decode cX9_init 196 = .ok (.iconst 3, 1) := by decide +kernel
theorem dX9_init_197 : decode cX9_init 197 = .ok (.iconst (-1), 1) := by decide +kernel
theorem dX9_init_198 : decode cX9_init 198 = .ok (.iastore, 1) := by decide +kernel
theorem dX9_init_199 : decode cX9_init 199 = .ok (.putfield 48, 3) := by decide +kernel
theorem dX9_init_202 : decode cX9_init 202 = .ok (.aload_n 0, 1) := by decide +kernel
theorem dX9_init_203 : decode cX9_init 203 = .ok (.iconst 4, 1) := by decide +kernel
theorem dX9_init_204 : decode cX9_init 204 = .ok (.newarray .int, 2) := by decide +kernel
theorem dX9_init_206 : decode cX9_init 206 = .ok (.putfield 51, 3) := by decide +kernel
theorem dX9_init_209 : decode cX9_init 209 = .ok (.aload_n 0, 1) := by decide +kernel
theorem dX9_init_210 : decode cX9_init 210 = .ok (.bipush 96, 2) := by decide +kernel
theorem dX9_init_212 : decode cX9_init 212 = .ok (.newarray .int, 2) := by decide +kernel
theorem dX9_init_214 : decode cX9_init 214 = .ok (.putfield 54, 3) := by decide +kernel
theorem dX9_init_217 : decode cX9_init 217 = .ok (.aload_n 0, 1) := by decide +kernel
theorem dX9_init_218 : decode cX9_init 218 = .ok (.iconst 5, 1) := by decide +kernel
theorem dX9_init_219 : decode cX9_init 219 = .ok (.newarray .int, 2) := by decide +kernel
theorem dX9_init_221 : decode cX9_init 221 = .ok (.putfield 57, 3) := by decide +kernel
theorem dX9_init_224 : decode cX9_init 224 = .ok (.aload_n 0, 1) := by decide +kernel
theorem dX9_init_225 : decode cX9_init 225 = .ok (.iconst 5, 1) := by decide +kernel
theorem dX9_init_226 : decode cX9_init 226 = .ok (.newarray .int, 2) := by decide +kernel
theorem dX9_init_228 : decode cX9_init 228 = .ok (.putfield 60, 3) := by decide +kernel
theorem dX9_init_231 : decode cX9_init 231 = .ok (.aload_n 0, 1) := by decide +kernel
theorem dX9_init_232 : decode cX9_init 232 = .ok (.iconst 5, 1) := by decide +kernel
theorem dX9_init_233 : decode cX9_init 233 = .ok (.newarray .int, 2) := by decide +kernel
theorem dX9_init_235 : decode cX9_init 235 = .ok (.putfield 63, 3) := by decide +kernel
theorem dX9_init_238 : decode cX9_init 238 = .ok (.aload_n 0, 1) := by decide +kernel
theorem dX9_init_239 : decode cX9_init 239 = .ok (.bipush 120, 2) := by decide +kernel
theorem dX9_init_241 : decode cX9_init 241 = .ok (.newarray .int, 2) := by decide +kernel
theorem dX9_init_243 : decode cX9_init 243 = .ok (.putfield 66, 3) := by decide +kernel
theorem dX9_init_246 : decode cX9_init 246 = .ok (.aload_n 0, 1) := by decide +kernel
theorem dX9_init_247 : decode cX9_init 247 = .ok (.bipush 24, 2) := by decide +kernel
theorem dX9_init_249 : decode cX9_init 249 = .ok (.newarray .int, 2) := by decide +kernel
theorem dX9_init_251 : decode cX9_init 251 = .ok (.putfield 69, 3) := by decide +kernel
theorem dX9_init_254 : decode cX9_init 254 = .ok (.aload_n 0, 1) := by decide +kernel
theorem dX9_init_255 : decode cX9_init 255 = .ok (.bipush 60, 2) := by decide +kernel
theorem dX9_init_257 : decode cX9_init 257 = .ok (.newarray .int, 2) := by decide +kernel
theorem dX9_init_259 : decode cX9_init 259 = .ok (.putfield 72, 3) := by decide +kernel
theorem dX9_init_262 : decode cX9_init 262 = .ok (.aload_n 0, 1) := by decide +kernel
theorem dX9_init_263 : decode cX9_init 263 = .ok (.getfield 9, 3) := by decide +kernel
theorem dX9_init_266 : decode cX9_init 266 = .ok (.iconst 0, 1) := by decide +kernel
theorem dX9_init_267 : decode cX9_init 267 = .ok (.iconst 1, 1) := by decide +kernel
theorem dX9_init_268 : decode cX9_init 268 = .ok (.iastore, 1) := by decide +kernel
theorem dX9_init_269 : decode cX9_init 269 = .ok (.aload_n 0, 1) := by decide +kernel
theorem dX9_init_270 : decode cX9_init 270 = .ok (.getfield 9, 3) := by decide +kernel
theorem dX9_init_273 : decode cX9_init 273 = .ok (.iconst 3, 1) := by decide +kernel
theorem dX9_init_274 : decode cX9_init 274 = .ok (.bipush 20, 2) := by decide +kernel
theorem dX9_init_276 : decode cX9_init 276 = .ok (.iastore, 1) := by decide +kernel
theorem dX9_init_277 : decode cX9_init 277 = .ok (.aload_n 0, 1) := by decide +kernel
theorem dX9_init_278 : decode cX9_init 278 = .ok (.getfield 9, 3) := by decide +kernel
theorem dX9_init_281 : decode cX9_init 281 = .ok (.iconst 5, 1) := by decide +kernel
theorem dX9_init_282 : decode cX9_init 282 = .ok (.bipush 8, 2) := by decide +kernel
theorem dX9_init_284 : decode cX9_init 284 = .ok (.iastore, 1) := by decide +kernel
theorem dX9_init_285 : decode cX9_init 285 = .ok (.return_, 1) := by decide +kernel
theorem dX9_in_0 : decode cX9_in 0 = .ok (.iload_n 0, 1) := by decide +kernel
theorem dX9_in_1 : decode cX9_in 1 = .ok (.iload_n 1, 1) := by decide +kernel
theorem dX9_in_2 : decode cX9_in 2 = .ok (.if_icmp .lt 12, 3) := by decide +kernel
theorem dX9_in_5 : decode cX9_in 5 = .ok (.iload_n 0, 1) := by decide +kernel
theorem dX9_in_6 : decode cX9_in 6 = .ok (.iload_n 2, 1) := by decide +kernel
theorem dX9_in_7 : decode cX9_in 7 = .ok (.if_icmp .gt 7, 3) := by decide +kernel
theorem dX9_in_10 : decode cX9_in 10 = .ok (.iconst 1, 1) := by decide +kernel
theorem dX9_in_11 : decode cX9_in 11 = .ok (.goto 4, 3) := by decide +kernel
theorem dX9_in_14 : decode cX9_in 14 = .ok (.iconst 0, 1) := by decide +kernel
theorem dX9_in_15 : decode cX9_in 15 = .ok (.ireturn, 1) := by decide +kernel
theorem dX9_within_0 : decode cX9_within 0 = .ok (.iload_n 0, 1) := by decide +kernel
theorem dX9_within_1 : decode cX9_within 1 = .ok (.iload_n 1, 1) := by decide +kernel
theorem dX9_within_2 : decode cX9_within 2 = .ok (.if_icmp .ge 7, 3) := by decide +kernel
theorem dX9_within_5 : decode cX9_within 5 = .ok (.iload_n 1, 1) := by decide +kernel
theorem dX9_within_6 : decode cX9_within 6 = .ok (.goto 13, 3) := by decide +kernel
theorem dX9_within_9 : decode cX9_within 9 = .ok (.iload_n 0, 1) := by decide +kernel
theorem dX9_within_10 : decode cX9_within 10 = .ok (.iload_n 2, 1) := by decide +kernel
theorem dX9_within_11 : decode cX9_within 11 = .ok (.if_icmp .le 7, 3) := by decide +kernel
theorem dX9_within_14 : decode cX9_within 14 = .ok (.iload_n 2, 1) := by decide +kernel
theorem dX9_within_15 : decode cX9_within 15 = .ok (.goto 4, 3) := by decide +kernel
theorem dX9_within_18 : decode cX9_within 18 = .ok (.iload_n 0, 1) := by decide +kernel
theorem dX9_within_19 : decode cX9_within 19 = .ok (.ireturn, 1) := by decide +kernel
theorem dX9_copyAll_0 : decode cX9_copyAll 0 = .ok (.iconst 0, 1) := by decide +kernel
theorem dX9_copyAll_1 : decode cX9_copyAll 1 = .ok (.istore_n 2, 1) := by decide +kernel
theorem dX9_copyAll_2 : decode cX9_copyAll 2 = .ok (.iload_n 2, 1) := by decide +kernel
theorem dX9_copyAll_3 : decode cX9_copyAll 3 = .ok (.sipush 1433, 3) := by decide +kernel
theorem dX9_copyAll_6 : decode cX9_copyAll 6 = .ok (.if_icmp .ge 15, 3) := by decide +kernel
theorem dX9_copyAll_9 : decode cX9_copyAll 9 = .ok (.aload_n 1, 1) := by decide +kernel
theorem dX9_copyAll_10 : decode cX9_copyAll 10 = .ok (.iload_n 2, 1) := by decide +kernel
theorem dX9_copyAll_11 : decode cX9_copyAll 11 = .ok (.aload_n 0, 1) := by decide +kernel
theorem dX9_copyAll_12 : decode cX9_copyAll 12 = .ok (.iload_n 2, 1) := by decide +kernel
theorem dX9_copyAll_13 : decode cX9_copyAll 13 = .ok (.iaload, 1) := by decide +kernel
theorem dX9_copyAll_14 : decode cX9_copyAll 14 = .ok (.iastore, 1) := by decide +kernel
theorem dX9_copyAll_15 : decode cX9_copyAll 15 = .ok (.iinc 2 1, 3) := by decide +kernel
theorem dX9_copyAll_18 : decode cX9_copyAll 18 = .ok (.goto (-16), 3) := by decide +kernel
theorem dX9_copyAll_21 : decode cX9_copyAll 21 = .ok (.return_, 1) := by decide +kernel
theorem dX9_isBeggar_0 : decode cX9_isBeggar 0 = .ok (.iload_n 1, 1) := by decide +kernel
theorem dX9_isBeggar_1 : decode cX9_isBeggar 1 = .ok (.iconst 0, 1) := by decide +kernel
theorem dX9_isBeggar_2 : decode cX9_isBeggar 2 = .ok (.aload_n 0, 1) := by decide +kernel
theorem dX9_isBeggar_3 : decode cX9_isBeggar 3 = .ok (.getfield 9, 3) := by decide +kernel
theorem dX9_isBeggar_6 : decode cX9_isBeggar 6 = .ok (.iconst 1, 1) := by decide +kernel
theorem dX9_isBeggar_7 : decode cX9_isBeggar 7 = .ok (.iaload, 1) := by decide +kernel
theorem dX9_isBeggar_8 : decode cX9_isBeggar 8 = .ok (.iconst 1, 1) := by decide +kernel
theorem dX9_isBeggar_9 : decode cX9_isBeggar 9 = .ok (.isub, 1) := by decide +kernel
theorem dX9_isBeggar_10 : decode cX9_isBeggar 10 = .ok (.invokestatic 75, 3) := by decide +kernel
theorem dX9_isBeggar_13 : decode cX9_isBeggar 13 = .ok (.ireturn, 1) := by decide +kernel
theorem dX9_isCorner_0 : decode cX9_isCorner 0 = .ok (.iload_n 0, 1) := by decide +kernel
theorem dX9_isCorner_1 : decode cX9_isCorner 1 = .ok (.iconst 0, 1) := by decide +kernel
theorem dX9_isCorner_2 : decode cX9_isCorner 2 = .ok (.bipush 7, 2) := by decide +kernel
theorem dX9_isCorner_4 : decode cX9_isCorner 4 = .ok (.invokestatic 75, 3) := by decide +kernel
theorem dX9_isCorner_7 : decode cX9_isCorner 7 = .ok (.ireturn, 1) := by decide +kernel
theorem dX9_of_0 : decode cX9_of 0 = .ok (.aload_n 0, 1) := by decide +kernel
theorem dX9_of_1 : decode cX9_of 1 = .ok (.getfield 9, 3) := by decide +kernel
theorem dX9_of_4 : decode cX9_of 4 = .ok (.bipush 16, 2) := by decide +kernel
theorem dX9_of_6 : decode cX9_of 6 = .ok (.iconst 5, 1) := by decide +kernel
theorem dX9_of_7 : decode cX9_of 7 = .ok (.iload_n 1, 1) := by decide +kernel
theorem dX9_of_8 : decode cX9_of 8 = .ok (.imul, 1) := by decide +kernel
theorem dX9_of_9 : decode cX9_of 9 = .ok (.iadd, 1) := by decide +kernel
theorem dX9_of_10 : decode cX9_of 10 = .ok (.iload_n 2, 1) := by decide +kernel
theorem dX9_of_11 : decode cX9_of 11 = .ok (.iadd, 1) := by decide +kernel
theorem dX9_of_12 : decode cX9_of 12 = .ok (.iaload, 1) := by decide +kernel
theorem dX9_of_13 : decode cX9_of 13 = .ok (.ireturn, 1) := by decide +kernel
theorem dX9_put_0 : decode cX9_put 0 = .ok (.aload_n 0, 1) := by decide +kernel
theorem dX9_put_1 : decode cX9_put 1 = .ok (.getfield 9, 3) := by decide +kernel
theorem dX9_put_4 : decode cX9_put 4 = .ok (.bipush 16, 2) := by decide +kernel
theorem dX9_put_6 : decode cX9_put 6 = .ok (.iconst 5, 1) := by decide +kernel
theorem dX9_put_7 : decode cX9_put 7 = .ok (.iload_n 1, 1) := by decide +kernel
theorem dX9_put_8 : decode cX9_put 8 = .ok (.imul, 1) := by decide +kernel
theorem dX9_put_9 : decode cX9_put 9 = .ok (.iadd, 1) := by decide +kernel
theorem dX9_put_10 : decode cX9_put 10 = .ok (.iload_n 2, 1) := by decide +kernel
theorem dX9_put_11 : decode cX9_put 11 = .ok (.iadd, 1) := by decide +kernel
theorem dX9_put_12 : decode cX9_put 12 = .ok (.iload_n 3, 1) := by decide +kernel
theorem dX9_put_13 : decode cX9_put 13 = .ok (.iastore, 1) := by decide +kernel
theorem dX9_put_14 : decode cX9_put 14 = .ok (.return_, 1) := by decide +kernel
theorem dX9_becomes_0 : decode cX9_becomes 0 = .ok (.aload_n 0, 1) := by decide +kernel
theorem dX9_becomes_1 : decode cX9_becomes 1 = .ok (.getfield 9, 3) := by decide +kernel
theorem dX9_becomes_4 : decode cX9_becomes 4 = .ok (.iload_n 1, 1) := by decide +kernel
theorem dX9_becomes_5 : decode cX9_becomes 5 = .ok (.iaload, 1) := by decide +kernel
theorem dX9_becomes_6 : decode cX9_becomes 6 = .ok (.istore_n 3, 1) := by decide +kernel
theorem dX9_becomes_7 : decode cX9_becomes 7 = .ok (.aload_n 0, 1) := by decide +kernel
theorem dX9_becomes_8 : decode cX9_becomes 8 = .ok (.getfield 9, 3) := by decide +kernel
theorem dX9_becomes_11 : decode cX9_becomes 11 = .ok (.iload_n 1, 1) := by decide +kernel
theorem dX9_becomes_12 : decode cX9_becomes 12 = .ok (.iload_n 2, 1) := by decide +kernel
theorem dX9_becomes_13 : decode cX9_becomes 13 = .ok (.iastore, 1) := by decide +kernel
theorem dX9_becomes_14 : decode cX9_becomes 14 = .ok (.iload_n 3, 1) := by decide +kernel
theorem dX9_becomes_15 : decode cX9_becomes 15 = .ok (.ireturn, 1) := by decide +kernel
theorem dX9_comes_0 : decode cX9_comes 0 = .ok (.aload_n 0, 1) := by decide +kernel
theorem dX9_comes_1 : decode cX9_comes 1 = .ok (.getfield 9, 3) := by decide +kernel
theorem dX9_comes_4 : decode cX9_comes 4 = .ok (.iconst 1, 1) := by decide +kernel
theorem dX9_comes_5 : decode cX9_comes 5 = .ok (.iaload, 1) := by decide +kernel
theorem dX9_comes_6 : decode cX9_comes 6 = .ok (.istore 4, 2) := by decide +kernel
theorem dX9_comes_8 : decode cX9_comes 8 = .ok (.aload_n 0, 1) := by decide +kernel
theorem dX9_comes_9 : decode cX9_comes 9 = .ok (.iload 4, 2) := by decide +kernel
theorem dX9_comes_11 : decode cX9_comes 11 = .ok (.iconst 0, 1) := by decide +kernel
theorem dX9_comes_12 : decode cX9_comes 12 = .ok (.iload_n 1, 1) := by decide +kernel
theorem dX9_comes_13 : decode cX9_comes 13 = .ok (.invokevirtual 79, 3) := by decide +kernel
theorem dX9_comes_16 : decode cX9_comes 16 = .ok (.aload_n 0, 1) := by decide +kernel
theorem dX9_comes_17 : decode cX9_comes 17 = .ok (.iload 4, 2) := by decide +kernel
theorem dX9_comes_19 : decode cX9_comes 19 = .ok (.iconst 1, 1) := by decide +kernel
theorem dX9_comes_20 : decode cX9_comes 20 = .ok (.iload_n 2, 1) := by decide +kernel
theorem dX9_comes_21 : decode cX9_comes 21 = .ok (.invokevirtual 79, 3) := by decide +kernel
theorem dX9_comes_24 : decode cX9_comes 24 = .ok (.aload_n 0, 1) := by decide +kernel
theorem dX9_comes_25 : decode cX9_comes 25 = .ok (.iload 4, 2) := by decide +kernel
theorem dX9_comes_27 : decode cX9_comes 27 = .ok (.iconst 2, 1) := by decide +kernel
theorem dX9_comes_28 : decode cX9_comes 28 = .ok (.iload_n 3, 1) := by decide +kernel
theorem dX9_comes_29 : decode cX9_comes 29 = .ok (.invokevirtual 79, 3) := by decide +kernel
theorem dX9_comes_32 : decode cX9_comes 32 = .ok (.aload_n 0, 1) := by decide +kernel
theorem dX9_comes_33 : decode cX9_comes 33 = .ok (.iload 4, 2) := by decide +kernel
theorem dX9_comes_35 : decode cX9_comes 35 = .ok (.iconst 3, 1) := by decide +kernel
theorem dX9_comes_36 : decode cX9_comes 36 = .ok (.iconst 0, 1) := by decide +kernel
theorem dX9_comes_37 : decode cX9_comes 37 = .ok (.invokevirtual 79, 3) := by decide +kernel
theorem dX9_comes_40 : decode cX9_comes 40 = .ok (.aload_n 0, 1) := by decide +kernel
theorem dX9_comes_41 : decode cX9_comes 41 = .ok (.iload 4, 2) := by decide +kernel
theorem dX9_comes_43 : decode cX9_comes 43 = .ok (.iconst 4, 1) := by decide +kernel
theorem dX9_comes_44 : decode cX9_comes 44 = .ok (.iconst 0, 1) := by decide +kernel
theorem dX9_comes_45 : decode cX9_comes 45 = .ok (.invokevirtual 79, 3) := by decide +kernel
theorem dX9_comes_48 : decode cX9_comes 48 = .ok (.aload_n 0, 1) := by decide +kernel
theorem dX9_comes_49 : decode cX9_comes 49 = .ok (.getfield 9, 3) := by decide +kernel
theorem dX9_comes_52 : decode cX9_comes 52 = .ok (.iconst 1, 1) := by decide +kernel
theorem dX9_comes_53 : decode cX9_comes 53 = .ok (.dup2, 1) := by decide +kernel
theorem dX9_comes_54 : decode cX9_comes 54 = .ok (.iaload, 1) := by decide +kernel
theorem dX9_comes_55 : decode cX9_comes 55 = .ok (.iconst 1, 1) := by decide +kernel
theorem dX9_comes_56 : decode cX9_comes 56 = .ok (.iadd, 1) := by decide +kernel
theorem dX9_comes_57 : decode cX9_comes 57 = .ok (.iastore, 1) := by decide +kernel
theorem dX9_comes_58 : decode cX9_comes 58 = .ok (.iload 4, 2) := by decide +kernel
theorem dX9_comes_60 : decode cX9_comes 60 = .ok (.ireturn, 1) := by decide +kernel
theorem dX9_beggar_0 : decode cX9_beggar 0 = .ok (.iload_n 1, 1) := by decide +kernel
theorem dX9_beggar_1 : decode cX9_beggar 1 = .ok (.iconst 0, 1) := by decide +kernel
theorem dX9_beggar_2 : decode cX9_beggar 2 = .ok (.iconst 5, 1) := by decide +kernel
theorem dX9_beggar_3 : decode cX9_beggar 3 = .ok (.invokestatic 75, 3) := by decide +kernel
theorem dX9_beggar_6 : decode cX9_beggar 6 = .ok (.ifCond .eq 23, 3) := by decide +kernel
theorem dX9_beggar_9 : decode cX9_beggar 9 = .ok (.iload_n 2, 1) := by decide +kernel
theorem dX9_beggar_10 : decode cX9_beggar 10 = .ok (.iconst 0, 1) := by decide +kernel
theorem dX9_beggar_11 : decode cX9_beggar 11 = .ok (.bipush 8, 2) := by decide +kernel
theorem dX9_beggar_13 : decode cX9_beggar 13 = .ok (.invokestatic 75, 3) := by decide +kernel
theorem dX9_beggar_16 : decode cX9_beggar 16 = .ok (.ifCond .eq 13, 3) := by decide +kernel
theorem dX9_beggar_19 : decode cX9_beggar 19 = .ok (.iload_n 3, 1) := by decide +kernel
theorem dX9_beggar_20 : decode cX9_beggar 20 = .ok (.iconst 0, 1) := by decide +kernel
theorem dX9_beggar_21 : decode cX9_beggar 21 = .ok (.bipush 20, 2) := by decide +kernel
theorem dX9_beggar_23 : decode cX9_beggar 23 = .ok (.invokestatic 75, 3) := by decide +kernel
theorem dX9_beggar_26 : decode cX9_beggar 26 = .ok (.ifCond .ne 6, 3) := by decide +kernel
theorem dX9_beggar_29 : decode cX9_beggar 29 = .ok (.ldc 83, 2) := by decide +kernel
theorem dX9_beggar_31 : decode cX9_beggar 31 = .ok (.ireturn, 1) := by decide +kernel
theorem dX9_beggar_32 : decode cX9_beggar 32 = .ok (.aload_n 0, 1) := by decide +kernel
theorem dX9_beggar_33 : decode cX9_beggar 33 = .ok (.getfield 9, 3) := by decide +kernel
theorem dX9_beggar_36 : decode cX9_beggar 36 = .ok (.iconst 1, 1) := by decide +kernel
theorem dX9_beggar_37 : decode cX9_beggar 37 = .ok (.iaload, 1) := by decide +kernel
theorem dX9_beggar_38 : decode cX9_beggar 38 = .ok (.bipush 8, 2) := by decide +kernel
theorem dX9_beggar_40 : decode cX9_beggar 40 = .ok (.if_icmp .ne 8, 3) := by decide +kernel
theorem dX9_beggar_43 : decode cX9_beggar 43 = .ok (.ldc 84, 2) := by decide +kernel
theorem dX9_beggar_45 : decode cX9_beggar 45 = .ok (.goto 10, 3) := by decide +kernel
theorem dX9_beggar_48 : decode cX9_beggar 48 = .ok (.aload_n 0, 1) := by decide +kernel
theorem dX9_beggar_49 : decode cX9_beggar 49 = .ok (.iload_n 1, 1) := by decide +kernel
theorem dX9_beggar_50 : decode cX9_beggar 50 = .ok (.iload_n 2, 1) := by decide +kernel
theorem dX9_beggar_51 : decode cX9_beggar 51 = .ok (.iload_n 3, 1) := by decide +kernel
theorem dX9_beggar_52 : decode cX9_beggar 52 = .ok (.invokevirtual 85, 3) := by decide +kernel
theorem dX9_beggar_55 : decode cX9_beggar 55 = .ok (.ireturn, 1) := by decide +kernel
theorem dX9_isAgainst_0 : decode cX9_isAgainst 0 = .ok (.iconst 0, 1) := by decide +kernel
theorem dX9_isAgainst_1 : decode cX9_isAgainst 1 = .ok (.istore_n 2, 1) := by decide +kernel
theorem dX9_isAgainst_2 : decode cX9_isAgainst 2 = .ok (.iload_n 2, 1) := by decide +kernel
theorem dX9_isAgainst_3 : decode cX9_isAgainst 3 = .ok (.iload_n 1, 1) := by decide +kernel
theorem dX9_isAgainst_4 : decode cX9_isAgainst 4 = .ok (.if_icmp .ge 87, 3) := by decide +kernel
theorem dX9_isAgainst_7 : decode cX9_isAgainst 7 = .ok (.aload_n 0, 1) := by decide +kernel
theorem dX9_isAgainst_8 : decode cX9_isAgainst 8 = .ok (.iload_n 1, 1) := by decide +kernel
theorem dX9_isAgainst_9 : decode cX9_isAgainst 9 = .ok (.iconst 1, 1) := by decide +kernel
theorem dX9_isAgainst_10 : decode cX9_isAgainst 10 = .ok (.invokevirtual 89, 3) := by decide +kernel
theorem dX9_isAgainst_13 : decode cX9_isAgainst 13 = .ok (.bipush 8, 2) := by decide +kernel
theorem dX9_isAgainst_15 : decode cX9_isAgainst 15 = .ok (.if_icmp .eq 76, 3) := by decide +kernel
theorem dX9_isAgainst_18 : decode cX9_isAgainst 18 = .ok (.aload_n 0, 1) := by decide +kernel
theorem dX9_isAgainst_19 : decode cX9_isAgainst 19 = .ok (.iload_n 2, 1) := by decide +kernel
theorem dX9_isAgainst_20 : decode cX9_isAgainst 20 = .ok (.iconst 1, 1) := by decide +kernel
theorem dX9_isAgainst_21 : decode cX9_isAgainst 21 = .ok (.invokevirtual 89, 3) := by decide +kernel
theorem dX9_isAgainst_24 : decode cX9_isAgainst 24 = .ok (.aload_n 0, 1) := by decide +kernel
theorem dX9_isAgainst_25 : decode cX9_isAgainst 25 = .ok (.iload_n 1, 1) := by decide +kernel
theorem dX9_isAgainst_26 : decode cX9_isAgainst 26 = .ok (.iconst 1, 1) := by decide +kernel
theorem dX9_isAgainst_27 : decode cX9_isAgainst 27 = .ok (.invokevirtual 89, 3) := by decide +kernel
theorem dX9_isAgainst_30 : decode cX9_isAgainst 30 = .ok (.isub, 1) := by decide +kernel
theorem dX9_isAgainst_31 : decode cX9_isAgainst 31 = .ok (.istore_n 3, 1) := by decide +kernel
theorem dX9_isAgainst_32 : decode cX9_isAgainst 32 = .ok (.aload_n 0, 1) := by decide +kernel
theorem dX9_isAgainst_33 : decode cX9_isAgainst 33 = .ok (.iload_n 2, 1) := by decide +kernel
theorem dX9_isAgainst_34 : decode cX9_isAgainst 34 = .ok (.iconst 0, 1) := by decide +kernel
theorem dX9_isAgainst_35 : decode cX9_isAgainst 35 = .ok (.invokevirtual 89, 3) := by decide +kernel
theorem dX9_isAgainst_38 : decode cX9_isAgainst 38 = .ok (.aload_n 0, 1) := by decide +kernel
theorem dX9_isAgainst_39 : decode cX9_isAgainst 39 = .ok (.iload_n 1, 1) := by decide +kernel
theorem dX9_isAgainst_40 : decode cX9_isAgainst 40 = .ok (.iconst 0, 1) := by decide +kernel
theorem dX9_isAgainst_41 : decode cX9_isAgainst 41 = .ok (.invokevirtual 89, 3) := by decide +kernel
theorem dX9_isAgainst_44 : decode cX9_isAgainst 44 = .ok (.if_icmp .ne 16, 3) := by decide +kernel
theorem dX9_isAgainst_47 : decode cX9_isAgainst 47 = .ok (.iload_n 3, 1) := by decide +kernel
theorem dX9_isAgainst_48 : decode cX9_isAgainst 48 = .ok (.iconst (-1), 1) := by decide +kernel
theorem dX9_isAgainst_49 : decode cX9_isAgainst 49 = .ok (.iconst 1, 1) := by decide +kernel
theorem dX9_isAgainst_50 : decode cX9_isAgainst 50 = .ok (.invokestatic 75, 3) := by decide +kernel
theorem dX9_isAgainst_53 : decode cX9_isAgainst 53 = .ok (.ifCond .eq 7, 3) := by decide +kernel
theorem dX9_isAgainst_56 : decode cX9_isAgainst 56 = .ok (.iconst 1, 1) := by decide +kernel
theorem dX9_isAgainst_57 : decode cX9_isAgainst 57 = .ok (.goto 4, 3) := by decide +kernel
theorem dX9_isAgainst_60 : decode cX9_isAgainst 60 = .ok (.iconst 0, 1) := by decide +kernel
theorem dX9_isAgainst_61 : decode cX9_isAgainst 61 = .ok (.istore 4, 2) := by decide +kernel
theorem dX9_isAgainst_63 : decode cX9_isAgainst 63 = .ok (.aload_n 0, 1) := by decide +kernel
theorem dX9_isAgainst_64 : decode cX9_isAgainst 64 = .ok (.iload_n 2, 1) := by decide +kernel
theorem dX9_isAgainst_65 : decode cX9_isAgainst 65 = .ok (.iconst 1, 1) := by decide +kernel
theorem dX9_isAgainst_66 : decode cX9_isAgainst 66 = .ok (.invokevirtual 89, 3) := by decide +kernel
theorem dX9_isAgainst_69 : decode cX9_isAgainst 69 = .ok (.bipush 8, 2) := by decide +kernel
theorem dX9_isAgainst_71 : decode cX9_isAgainst 71 = .ok (.if_icmp .eq 14, 3) := by decide +kernel
theorem dX9_isAgainst_74 : decode cX9_isAgainst 74 = .ok (.iload_n 3, 1) := by decide +kernel
theorem dX9_isAgainst_75 : decode cX9_isAgainst 75 = .ok (.ifCond .eq 8, 3) := by decide +kernel
theorem dX9_isAgainst_78 : decode cX9_isAgainst 78 = .ok (.iload 4, 2) := by decide +kernel
theorem dX9_isAgainst_80 : decode cX9_isAgainst 80 = .ok (.ifCond .eq 5, 3) := by decide +kernel
theorem dX9_isAgainst_83 : decode cX9_isAgainst 83 = .ok (.iconst 1, 1) := by decide +kernel
theorem dX9_isAgainst_84 : decode cX9_isAgainst 84 = .ok (.ireturn, 1) := by decide +kernel
theorem dX9_isAgainst_85 : decode cX9_isAgainst 85 = .ok (.iinc 2 1, 3) := by decide +kernel
theorem dX9_isAgainst_88 : decode cX9_isAgainst 88 = .ok (.goto (-86), 3) := by decide +kernel
theorem dX9_isAgainst_91 : decode cX9_isAgainst 91 = .ok (.iconst 0, 1) := by decide +kernel
theorem dX9_isAgainst_92 : decode cX9_isAgainst 92 = .ok (.ireturn, 1) := by decide +kernel
theorem dX9_worthOf_0 : decode cX9_worthOf 0 = .ok (.aload_n 0, 1) := by decide +kernel
theorem dX9_worthOf_1 : decode cX9_worthOf 1 = .ok (.iload_n 1, 1) := by decide +kernel
theorem dX9_worthOf_2 : decode cX9_worthOf 2 = .ok (.iconst 2, 1) := by decide +kernel
theorem dX9_worthOf_3 : decode cX9_worthOf 3 = .ok (.invokevirtual 89, 3) := by decide +kernel
theorem dX9_worthOf_6 : decode cX9_worthOf 6 = .ok (.istore_n 2, 1) := by decide +kernel
theorem dX9_worthOf_7 : decode cX9_worthOf 7 = .ok (.aload_n 0, 1) := by decide +kernel
theorem dX9_worthOf_8 : decode cX9_worthOf 8 = .ok (.iload_n 1, 1) := by decide +kernel
theorem dX9_worthOf_9 : decode cX9_worthOf 9 = .ok (.iconst 0, 1) := by decide +kernel
theorem dX9_worthOf_10 : decode cX9_worthOf 10 = .ok (.invokevirtual 89, 3) := by decide +kernel
theorem dX9_worthOf_13 : decode cX9_worthOf 13 = .ok (.tableswitch 59 1 5 #[35, 40, 45, 52, 57], 35) := by decide +kernel
theorem dX9_worthOf_48 : decode cX9_worthOf 48 = .ok (.iload_n 2, 1) := by decide +kernel
theorem dX9_worthOf_49 : decode cX9_worthOf 49 = .ok (.bipush 6, 2) := by decide +kernel
theorem dX9_worthOf_51 : decode cX9_worthOf 51 = .ok (.iadd, 1) := by decide +kernel
theorem dX9_worthOf_52 : decode cX9_worthOf 52 = .ok (.ireturn, 1) := by decide +kernel
theorem dX9_worthOf_53 : decode cX9_worthOf 53 = .ok (.bipush 99, 2) := by decide +kernel
theorem dX9_worthOf_55 : decode cX9_worthOf 55 = .ok (.iload_n 2, 1) := by decide +kernel
theorem dX9_worthOf_56 : decode cX9_worthOf 56 = .ok (.isub, 1) := by decide +kernel
theorem dX9_worthOf_57 : decode cX9_worthOf 57 = .ok (.ireturn, 1) := by decide +kernel
theorem dX9_worthOf_58 : decode cX9_worthOf 58 = .ok (.iconst 2, 1) := by decide +kernel
theorem dX9_worthOf_59 : decode cX9_worthOf 59 = .ok (.iload_n 2, 1) := by decide +kernel
theorem dX9_worthOf_60 : decode cX9_worthOf 60 = .ok (.bipush 6, 2) := by decide +kernel
theorem dX9_worthOf_62 : decode cX9_worthOf 62 = .ok (.iadd, 1) := by decide +kernel
theorem dX9_worthOf_63 : decode cX9_worthOf 63 = .ok (.imul, 1) := by decide +kernel
theorem dX9_worthOf_64 : decode cX9_worthOf 64 = .ok (.ireturn, 1) := by decide +kernel
theorem dX9_worthOf_65 : decode cX9_worthOf 65 = .ok (.bipush 91, 2) := by decide +kernel
theorem dX9_worthOf_67 : decode cX9_worthOf 67 = .ok (.iload_n 2, 1) := by decide +kernel
theorem dX9_worthOf_68 : decode cX9_worthOf 68 = .ok (.isub, 1) := by decide +kernel
theorem dX9_worthOf_69 : decode cX9_worthOf 69 = .ok (.ireturn, 1) := by decide +kernel
theorem dX9_worthOf_70 : decode cX9_worthOf 70 = .ok (.iconst 5, 1) := by decide +kernel
theorem dX9_worthOf_71 : decode cX9_worthOf 71 = .ok (.ireturn, 1) := by decide +kernel
theorem dX9_worthOf_72 : decode cX9_worthOf 72 = .ok (.iload_n 2, 1) := by decide +kernel
theorem dX9_worthOf_73 : decode cX9_worthOf 73 = .ok (.ireturn, 1) := by decide +kernel
theorem dX9_told_0 : decode cX9_told 0 = .ok (.aload_n 0, 1) := by decide +kernel
theorem dX9_told_1 : decode cX9_told 1 = .ok (.iload_n 1, 1) := by decide +kernel
theorem dX9_told_2 : decode cX9_told 2 = .ok (.invokevirtual 93, 3) := by decide +kernel
theorem dX9_told_5 : decode cX9_told 5 = .ok (.ifCond .eq 13, 3) := by decide +kernel
theorem dX9_told_8 : decode cX9_told 8 = .ok (.iload_n 2, 1) := by decide +kernel
theorem dX9_told_9 : decode cX9_told 9 = .ok (.iconst 0, 1) := by decide +kernel
theorem dX9_told_10 : decode cX9_told 10 = .ok (.bipush 6, 2) := by decide +kernel
theorem dX9_told_12 : decode cX9_told 12 = .ok (.invokestatic 75, 3) := by decide +kernel
theorem dX9_told_15 : decode cX9_told 15 = .ok (.ifCond .ne 6, 3) := by decide +kernel
theorem dX9_told_18 : decode cX9_told 18 = .ok (.ldc 83, 2) := by decide +kernel
theorem dX9_told_20 : decode cX9_told 20 = .ok (.ireturn, 1) := by decide +kernel
theorem dX9_told_21 : decode cX9_told 21 = .ok (.iload_n 2, 1) := by decide +kernel
theorem dX9_told_22 : decode cX9_told 22 = .ok (.iconst 5, 1) := by decide +kernel
theorem dX9_told_23 : decode cX9_told 23 = .ok (.if_icmp .ge 12, 3) := by decide +kernel
theorem dX9_told_26 : decode cX9_told 26 = .ok (.aload_n 0, 1) := by decide +kernel
theorem dX9_told_27 : decode cX9_told 27 = .ok (.iload_n 1, 1) := by decide +kernel
theorem dX9_told_28 : decode cX9_told 28 = .ok (.iload_n 2, 1) := by decide +kernel
theorem dX9_told_29 : decode cX9_told 29 = .ok (.invokevirtual 89, 3) := by decide +kernel
theorem dX9_told_32 : decode cX9_told 32 = .ok (.goto 30, 3) := by decide +kernel
theorem dX9_told_35 : decode cX9_told 35 = .ok (.iload_n 2, 1) := by decide +kernel
theorem dX9_told_36 : decode cX9_told 36 = .ok (.bipush 6, 2) := by decide +kernel
theorem dX9_told_38 : decode cX9_told 38 = .ok (.if_icmp .ne 11, 3) := by decide +kernel
theorem dX9_told_41 : decode cX9_told 41 = .ok (.aload_n 0, 1) := by decide +kernel
theorem dX9_told_42 : decode cX9_told 42 = .ok (.iload_n 1, 1) := by decide +kernel
theorem dX9_told_43 : decode cX9_told 43 = .ok (.invokevirtual 97, 3) := by decide +kernel
theorem dX9_told_46 : decode cX9_told 46 = .ok (.goto 16, 3) := by decide +kernel
theorem dX9_told_49 : decode cX9_told 49 = .ok (.aload_n 0, 1) := by decide +kernel
theorem dX9_told_50 : decode cX9_told 50 = .ok (.iload_n 1, 1) := by decide +kernel
theorem dX9_told_51 : decode cX9_told 51 = .ok (.invokevirtual 101, 3) := by decide +kernel
theorem dX9_told_54 : decode cX9_told 54 = .ok (.ifCond .eq 7, 3) := by decide +kernel
theorem dX9_told_57 : decode cX9_told 57 = .ok (.iconst 1, 1) := by decide +kernel
theorem dX9_told_58 : decode cX9_told 58 = .ok (.goto 4, 3) := by decide +kernel
theorem dX9_told_61 : decode cX9_told 61 = .ok (.iconst 0, 1) := by decide +kernel
theorem dX9_told_62 : decode cX9_told 62 = .ok (.ireturn, 1) := by decide +kernel
theorem dX9_givenTo_0 : decode cX9_givenTo 0 = .ok (.aload_n 0, 1) := by decide +kernel
theorem dX9_givenTo_1 : decode cX9_givenTo 1 = .ok (.iconst 0, 1) := by decide +kernel
theorem dX9_givenTo_2 : decode cX9_givenTo 2 = .ok (.invokevirtual 104, 3) := by decide +kernel
theorem dX9_givenTo_5 : decode cX9_givenTo 5 = .ok (.istore 5, 2) := by decide +kernel
theorem dX9_givenTo_7 : decode cX9_givenTo 7 = .ok (.aload_n 0, 1) := by decide +kernel
theorem dX9_givenTo_8 : decode cX9_givenTo 8 = .ok (.getfield 45, 3) := by decide +kernel
theorem dX9_givenTo_11 : decode cX9_givenTo 11 = .ok (.iconst 0, 1) := by decide +kernel
theorem dX9_givenTo_12 : decode cX9_givenTo 12 = .ok (.iload_n 2, 1) := by decide +kernel
theorem dX9_givenTo_13 : decode cX9_givenTo 13 = .ok (.iastore, 1) := by decide +kernel
theorem dX9_givenTo_14 : decode cX9_givenTo 14 = .ok (.aload_n 0, 1) := by decide +kernel
theorem dX9_givenTo_15 : decode cX9_givenTo 15 = .ok (.getfield 45, 3) := by decide +kernel
theorem dX9_givenTo_18 : decode cX9_givenTo 18 = .ok (.iconst 1, 1) := by decide +kernel
theorem dX9_givenTo_19 : decode cX9_givenTo 19 = .ok (.iload 4, 2) := by decide +kernel
theorem dX9_givenTo_21 : decode cX9_givenTo 21 = .ok (.iastore, 1) := by decide +kernel
theorem dX9_givenTo_22 : decode cX9_givenTo 22 = .ok (.aload_n 0, 1) := by decide +kernel
theorem dX9_givenTo_23 : decode cX9_givenTo 23 = .ok (.getfield 45, 3) := by decide +kernel
theorem dX9_givenTo_26 : decode cX9_givenTo 26 = .ok (.iconst 2, 1) := by decide +kernel
theorem dX9_givenTo_27 : decode cX9_givenTo 27 = .ok (.aload_n 0, 1) := by decide +kernel
theorem dX9_givenTo_28 : decode cX9_givenTo 28 = .ok (.iload_n 1, 1) := by decide +kernel
theorem dX9_givenTo_29 : decode cX9_givenTo 29 = .ok (.iconst 2, 1) := by decide +kernel
theorem dX9_givenTo_30 : decode cX9_givenTo 30 = .ok (.invokevirtual 89, 3) := by decide +kernel
theorem dX9_givenTo_33 : decode cX9_givenTo 33 = .ok (.iastore, 1) := by decide +kernel
theorem dX9_givenTo_34 : decode cX9_givenTo 34 = .ok (.iload 5, 2) := by decide +kernel
theorem dX9_givenTo_36 : decode cX9_givenTo 36 = .ok (.ifCond .ge 22, 3) := by decide +kernel
theorem dX9_givenTo_39 : decode cX9_givenTo 39 = .ok (.iload_n 2, 1) := by decide +kernel
theorem dX9_givenTo_40 : decode cX9_givenTo 40 = .ok (.iload 4, 2) := by decide +kernel
theorem dX9_givenTo_42 : decode cX9_givenTo 42 = .ok (.imul, 1) := by decide +kernel
theorem dX9_givenTo_43 : decode cX9_givenTo 43 = .ok (.bipush 9, 2) := by decide +kernel
theorem dX9_givenTo_45 : decode cX9_givenTo 45 = .ok (.idiv, 1) := by decide +kernel
theorem dX9_givenTo_46 : decode cX9_givenTo 46 = .ok (.aload_n 0, 1) := by decide +kernel
theorem dX9_givenTo_47 : decode cX9_givenTo 47 = .ok (.iload_n 1, 1) := by decide +kernel
theorem dX9_givenTo_48 : decode cX9_givenTo 48 = .ok (.iconst 2, 1) := by decide +kernel
theorem dX9_givenTo_49 : decode cX9_givenTo 49 = .ok (.invokevirtual 89, 3) := by decide +kernel
theorem dX9_givenTo_52 : decode cX9_givenTo 52 = .ok (.iconst 5, 1) := by decide +kernel
theorem dX9_givenTo_53 : decode cX9_givenTo 53 = .ok (.idiv, 1) := by decide +kernel
theorem dX9_givenTo_54 : decode cX9_givenTo 54 = .ok (.iadd, 1) := by decide +kernel
theorem dX9_givenTo_55 : decode cX9_givenTo 55 = .ok (.goto 15, 3) := by decide +kernel
theorem dX9_givenTo_58 : decode cX9_givenTo 58 = .ok (.aload_n 0, 1) := by decide +kernel
theorem dX9_givenTo_59 : decode cX9_givenTo 59 = .ok (.iload 5, 2) := by decide +kernel
theorem dX9_givenTo_61 : decode cX9_givenTo 61 = .ok (.invokevirtual 107, 3) := by decide +kernel
theorem dX9_givenTo_64 : decode cX9_givenTo 64 = .ok (.iconst 0, 1) := by decide +kernel
theorem dX9_givenTo_65 : decode cX9_givenTo 65 = .ok (.bipush 99, 2) := by decide +kernel
theorem dX9_givenTo_67 : decode cX9_givenTo 67 = .ok (.invokestatic 110, 3) := by decide +kernel
theorem dX9_givenTo_70 : decode cX9_givenTo 70 = .ok (.istore 6, 2) := by decide +kernel
theorem dX9_givenTo_72 : decode cX9_givenTo 72 = .ok (.aload_n 0, 1) := by decide +kernel
theorem dX9_givenTo_73 : decode cX9_givenTo 73 = .ok (.iload_n 1, 1) := by decide +kernel
theorem dX9_givenTo_74 : decode cX9_givenTo 74 = .ok (.iconst 0, 1) := by decide +kernel
theorem dX9_givenTo_75 : decode cX9_givenTo 75 = .ok (.invokevirtual 89, 3) := by decide +kernel
theorem dX9_givenTo_78 : decode cX9_givenTo 78 = .ok (.tableswitch 124 1 5 #[34, 41, 56, 79, 104], 34) := by decide +kernel
theorem dX9_givenTo_112 : decode cX9_givenTo 112 = .ok (.iload 6, 2) := by decide +kernel
theorem dX9_givenTo_114 : decode cX9_givenTo 114 = .ok (.iload_n 3, 1) := by decide +kernel
theorem dX9_givenTo_115 : decode cX9_givenTo 115 = .ok (.iconst 3, 1) := by decide +kernel
theorem dX9_givenTo_116 : decode cX9_givenTo 116 = .ok (.idiv, 1) := by decide +kernel
theorem dX9_givenTo_117 : decode cX9_givenTo 117 = .ok (.iadd, 1) := by decide +kernel
theorem dX9_givenTo_118 : decode cX9_givenTo 118 = .ok (.ireturn, 1) := by decide +kernel
theorem dX9_givenTo_119 : decode cX9_givenTo 119 = .ok (.iload_n 3, 1) := by decide +kernel
theorem dX9_givenTo_120 : decode cX9_givenTo 120 = .ok (.iconst 5, 1) := by decide +kernel
theorem dX9_givenTo_121 : decode cX9_givenTo 121 = .ok (.if_icmp .ge 8, 3) := by decide +kernel
theorem dX9_givenTo_124 : decode cX9_givenTo 124 = .ok (.iload 6, 2) := by decide +kernel
theorem dX9_givenTo_126 : decode cX9_givenTo 126 = .ok (.goto 7, 3) := by decide +kernel
theorem dX9_givenTo_129 : decode cX9_givenTo 129 = .ok (.iconst 2, 1) := by decide +kernel
theorem dX9_givenTo_130 : decode cX9_givenTo 130 = .ok (.iload 6, 2) := by decide +kernel
theorem dX9_givenTo_132 : decode cX9_givenTo 132 = .ok (.imul, 1) := by decide +kernel
theorem dX9_givenTo_133 : decode cX9_givenTo 133 = .ok (.ireturn, 1) := by decide +kernel
theorem dX9_givenTo_134 : decode cX9_givenTo 134 = .ok (.iload 6, 2) := by decide +kernel
theorem dX9_givenTo_136 : decode cX9_givenTo 136 = .ok (.iload_n 3, 1) := by decide +kernel
theorem dX9_givenTo_137 : decode cX9_givenTo 137 = .ok (.iconst 3, 1) := by decide +kernel
theorem dX9_givenTo_138 : decode cX9_givenTo 138 = .ok (.idiv, 1) := by decide +kernel
theorem dX9_givenTo_139 : decode cX9_givenTo 139 = .ok (.iadd, 1) := by decide +kernel
theorem dX9_givenTo_140 : decode cX9_givenTo 140 = .ok (.aload_n 0, 1) := by decide +kernel
theorem dX9_givenTo_141 : decode cX9_givenTo 141 = .ok (.getfield 9, 3) := by decide +kernel
theorem dX9_givenTo_144 : decode cX9_givenTo 144 = .ok (.iconst 4, 1) := by decide +kernel
theorem dX9_givenTo_145 : decode cX9_givenTo 145 = .ok (.iaload, 1) := by decide +kernel
theorem dX9_givenTo_146 : decode cX9_givenTo 146 = .ok (.iconst 1, 1) := by decide +kernel
theorem dX9_givenTo_147 : decode cX9_givenTo 147 = .ok (.if_icmp .ne 7, 3) := by decide +kernel
theorem dX9_givenTo_150 : decode cX9_givenTo 150 = .ok (.iconst 2, 1) := by decide +kernel
theorem dX9_givenTo_151 : decode cX9_givenTo 151 = .ok (.goto 4, 3) := by decide +kernel
theorem dX9_givenTo_154 : decode cX9_givenTo 154 = .ok (.iconst 1, 1) := by decide +kernel
theorem dX9_givenTo_155 : decode cX9_givenTo 155 = .ok (.idiv, 1) := by decide +kernel
theorem dX9_givenTo_156 : decode cX9_givenTo 156 = .ok (.ireturn, 1) := by decide +kernel
theorem dX9_givenTo_157 : decode cX9_givenTo 157 = .ok (.iload_n 3, 1) := by decide +kernel
theorem dX9_givenTo_158 : decode cX9_givenTo 158 = .ok (.iconst 5, 1) := by decide +kernel
theorem dX9_givenTo_159 : decode cX9_givenTo 159 = .ok (.if_icmp .ge 8, 3) := by decide +kernel
theorem dX9_givenTo_162 : decode cX9_givenTo 162 = .ok (.iload 6, 2) := by decide +kernel
theorem dX9_givenTo_164 : decode cX9_givenTo 164 = .ok (.goto 17, 3) := by decide +kernel
theorem dX9_givenTo_167 : decode cX9_givenTo 167 = .ok (.iload_n 3, 1) := by decide +kernel
theorem dX9_givenTo_168 : decode cX9_givenTo 168 = .ok (.bipush 8, 2) := by decide +kernel
theorem dX9_givenTo_170 : decode cX9_givenTo 170 = .ok (.if_icmp .ge 10, 3) := by decide +kernel
theorem dX9_givenTo_173 : decode cX9_givenTo 173 = .ok (.iconst 2, 1) := by decide +kernel
theorem dX9_givenTo_174 : decode cX9_givenTo 174 = .ok (.iload 6, 2) := by decide +kernel
theorem dX9_givenTo_176 : decode cX9_givenTo 176 = .ok (.imul, 1) := by decide +kernel
theorem dX9_givenTo_177 : decode cX9_givenTo 177 = .ok (.goto 4, 3) := by decide +kernel
theorem dX9_givenTo_180 : decode cX9_givenTo 180 = .ok (.iconst 0, 1) := by decide +kernel
theorem dX9_givenTo_181 : decode cX9_givenTo 181 = .ok (.ireturn, 1) := by decide +kernel
theorem dX9_givenTo_182 : decode cX9_givenTo 182 = .ok (.iload 4, 2) := by decide +kernel
theorem dX9_givenTo_184 : decode cX9_givenTo 184 = .ok (.iconst 3, 1) := by decide +kernel
theorem dX9_givenTo_185 : decode cX9_givenTo 185 = .ok (.if_icmp .lt 8, 3) := by decide +kernel
theorem dX9_givenTo_188 : decode cX9_givenTo 188 = .ok (.iload 6, 2) := by decide +kernel
theorem dX9_givenTo_190 : decode cX9_givenTo 190 = .ok (.ifCond .ne 7, 3) := by decide +kernel
theorem dX9_givenTo_193 : decode cX9_givenTo 193 = .ok (.iconst 0, 1) := by decide +kernel
theorem dX9_givenTo_194 : decode cX9_givenTo 194 = .ok (.goto 7, 3) := by decide +kernel
theorem dX9_givenTo_197 : decode cX9_givenTo 197 = .ok (.iload 6, 2) := by decide +kernel
theorem dX9_givenTo_199 : decode cX9_givenTo 199 = .ok (.iconst 1, 1) := by decide +kernel
theorem dX9_givenTo_200 : decode cX9_givenTo 200 = .ok (.isub, 1) := by decide +kernel
theorem dX9_givenTo_201 : decode cX9_givenTo 201 = .ok (.ireturn, 1) := by decide +kernel
theorem dX9_givenTo_202 : decode cX9_givenTo 202 = .ok (.iload 6, 2) := by decide +kernel
theorem dX9_givenTo_204 : decode cX9_givenTo 204 = .ok (.ireturn, 1) := by decide +kernel
theorem dX9_given_0 : decode cX9_given 0 = .ok (.aload_n 0, 1) := by decide +kernel
theorem dX9_given_1 : decode cX9_given 1 = .ok (.iload_n 1, 1) := by decide +kernel
theorem dX9_given_2 : decode cX9_given 2 = .ok (.invokevirtual 93, 3) := by decide +kernel
theorem dX9_given_5 : decode cX9_given 5 = .ok (.ifCond .eq 46, 3) := by decide +kernel
theorem dX9_given_8 : decode cX9_given 8 = .ok (.iload_n 2, 1) := by decide +kernel
theorem dX9_given_9 : decode cX9_given 9 = .ok (.iconst 1, 1) := by decide +kernel
theorem dX9_given_10 : decode cX9_given 10 = .ok (.bipush 9, 2) := by decide +kernel
theorem dX9_given_12 : decode cX9_given 12 = .ok (.invokestatic 75, 3) := by decide +kernel
theorem dX9_given_15 : decode cX9_given 15 = .ok (.ifCond .eq 36, 3) := by decide +kernel
theorem dX9_given_18 : decode cX9_given 18 = .ok (.iload_n 3, 1) := by decide +kernel
theorem dX9_given_19 : decode cX9_given 19 = .ok (.iconst 0, 1) := by decide +kernel
theorem dX9_given_20 : decode cX9_given 20 = .ok (.bipush 9, 2) := by decide +kernel
theorem dX9_given_22 : decode cX9_given 22 = .ok (.invokestatic 75, 3) := by decide +kernel
theorem dX9_given_25 : decode cX9_given 25 = .ok (.ifCond .eq 26, 3) := by decide +kernel
theorem dX9_given_28 : decode cX9_given 28 = .ok (.iload 4, 2) := by decide +kernel
theorem dX9_given_30 : decode cX9_given 30 = .ok (.iconst 0, 1) := by decide +kernel
theorem dX9_given_31 : decode cX9_given 31 = .ok (.bipush 9, 2) := by decide +kernel
theorem dX9_given_33 : decode cX9_given 33 = .ok (.invokestatic 75, 3) := by decide +kernel
theorem dX9_given_36 : decode cX9_given 36 = .ok (.ifCond .eq 15, 3) := by decide +kernel
theorem dX9_given_39 : decode cX9_given 39 = .ok (.aload_n 0, 1) := by decide +kernel
theorem dX9_given_40 : decode cX9_given 40 = .ok (.iload_n 1, 1) := by decide +kernel
theorem dX9_given_41 : decode cX9_given 41 = .ok (.iload_n 2, 1) := by decide +kernel
theorem dX9_given_42 : decode cX9_given 42 = .ok (.iload_n 3, 1) := by decide +kernel
theorem dX9_given_43 : decode cX9_given 43 = .ok (.iload 4, 2) := by decide +kernel
theorem dX9_given_45 : decode cX9_given 45 = .ok (.invokevirtual 113, 3) := by decide +kernel
theorem dX9_given_48 : decode cX9_given 48 = .ok (.goto 5, 3) := by decide +kernel
theorem dX9_given_51 : decode cX9_given 51 = .ok (.ldc 83, 2) := by decide +kernel
theorem dX9_given_53 : decode cX9_given 53 = .ok (.ireturn, 1) := by decide +kernel
theorem dX9_isUnder_0 : decode cX9_isUnder 0 = .ok (.iload_n 1, 1) := by decide +kernel
theorem dX9_isUnder_1 : decode cX9_isUnder 1 = .ok (.ifCond .eq 28, 3) := by decide +kernel
theorem dX9_isUnder_4 : decode cX9_isUnder 4 = .ok (.iload_n 0, 1) := by decide +kernel
theorem dX9_isUnder_5 : decode cX9_isUnder 5 = .ok (.iload_n 1, 1) := by decide +kernel
theorem dX9_isUnder_6 : decode cX9_isUnder 6 = .ok (.if_icmp .eq 23, 3) := by decide +kernel
theorem dX9_isUnder_9 : decode cX9_isUnder 9 = .ok (.iload_n 1, 1) := by decide +kernel
theorem dX9_isUnder_10 : decode cX9_isUnder 10 = .ok (.iconst 1, 1) := by decide +kernel
theorem dX9_isUnder_11 : decode cX9_isUnder 11 = .ok (.if_icmp .ne 8, 3) := by decide +kernel
theorem dX9_isUnder_14 : decode cX9_isUnder 14 = .ok (.iload_n 0, 1) := by decide +kernel
theorem dX9_isUnder_15 : decode cX9_isUnder 15 = .ok (.iconst 3, 1) := by decide +kernel
theorem dX9_isUnder_16 : decode cX9_isUnder 16 = .ok (.if_icmp .eq 13, 3) := by decide +kernel
theorem dX9_isUnder_19 : decode cX9_isUnder 19 = .ok (.iload_n 1, 1) := by decide +kernel
theorem dX9_isUnder_20 : decode cX9_isUnder 20 = .ok (.iconst 2, 1) := by decide +kernel
theorem dX9_isUnder_21 : decode cX9_isUnder 21 = .ok (.if_icmp .ne 12, 3) := by decide +kernel
theorem dX9_isUnder_24 : decode cX9_isUnder 24 = .ok (.iload_n 0, 1) := by decide +kernel
theorem dX9_isUnder_25 : decode cX9_isUnder 25 = .ok (.iconst 4, 1) := by decide +kernel
theorem dX9_isUnder_26 : decode cX9_isUnder 26 = .ok (.if_icmp .ne 7, 3) := by decide +kernel
theorem dX9_isUnder_29 : decode cX9_isUnder 29 = .ok (.iconst 1, 1) := by decide +kernel
theorem dX9_isUnder_30 : decode cX9_isUnder 30 = .ok (.goto 4, 3) := by decide +kernel
theorem dX9_isUnder_33 : decode cX9_isUnder 33 = .ok (.iconst 0, 1) := by decide +kernel
theorem dX9_isUnder_34 : decode cX9_isUnder 34 = .ok (.ireturn, 1) := by decide +kernel
theorem dX9_as_0 : decode cX9_as 0 = .ok (.aload_n 0, 1) := by decide +kernel
theorem dX9_as_1 : decode cX9_as 1 = .ok (.iload_n 1, 1) := by decide +kernel
theorem dX9_as_2 : decode cX9_as 2 = .ok (.invokevirtual 93, 3) := by decide +kernel
theorem dX9_as_5 : decode cX9_as 5 = .ok (.ifCond .eq 12, 3) := by decide +kernel
theorem dX9_as_8 : decode cX9_as 8 = .ok (.iload_n 2, 1) := by decide +kernel
theorem dX9_as_9 : decode cX9_as 9 = .ok (.iconst 0, 1) := by decide +kernel
theorem dX9_as_10 : decode cX9_as 10 = .ok (.iconst 5, 1) := by decide +kernel
theorem dX9_as_11 : decode cX9_as 11 = .ok (.invokestatic 75, 3) := by decide +kernel
theorem dX9_as_14 : decode cX9_as 14 = .ok (.ifCond .ne 6, 3) := by decide +kernel
theorem dX9_as_17 : decode cX9_as 17 = .ok (.ldc 83, 2) := by decide +kernel
theorem dX9_as_19 : decode cX9_as 19 = .ok (.ireturn, 1) := by decide +kernel
theorem dX9_as_20 : decode cX9_as 20 = .ok (.aload_n 0, 1) := by decide +kernel
theorem dX9_as_21 : decode cX9_as 21 = .ok (.iload_n 1, 1) := by decide +kernel
theorem dX9_as_22 : decode cX9_as 22 = .ok (.iconst 0, 1) := by decide +kernel
theorem dX9_as_23 : decode cX9_as 23 = .ok (.invokevirtual 89, 3) := by decide +kernel
theorem dX9_as_26 : decode cX9_as 26 = .ok (.iload_n 2, 1) := by decide +kernel
theorem dX9_as_27 : decode cX9_as 27 = .ok (.invokestatic 117, 3) := by decide +kernel
theorem dX9_as_30 : decode cX9_as 30 = .ok (.ifCond .eq 12, 3) := by decide +kernel
theorem dX9_as_33 : decode cX9_as 33 = .ok (.aload_n 0, 1) := by decide +kernel
theorem dX9_as_34 : decode cX9_as 34 = .ok (.iload_n 1, 1) := by decide +kernel
theorem dX9_as_35 : decode cX9_as 35 = .ok (.iconst 2, 1) := by decide +kernel
theorem dX9_as_36 : decode cX9_as 36 = .ok (.invokevirtual 89, 3) := by decide +kernel
theorem dX9_as_39 : decode cX9_as 39 = .ok (.goto 5, 3) := by decide +kernel
theorem dX9_as_42 : decode cX9_as 42 = .ok (.ldc 121, 2) := by decide +kernel
theorem dX9_as_44 : decode cX9_as 44 = .ok (.ireturn, 1) := by decide +kernel
theorem dX9_turns_0 : decode cX9_turns 0 = .ok (.aload_n 0, 1) := by decide +kernel
theorem dX9_turns_1 : decode cX9_turns 1 = .ok (.iload_n 1, 1) := by decide +kernel
theorem dX9_turns_2 : decode cX9_turns 2 = .ok (.invokevirtual 93, 3) := by decide +kernel
theorem dX9_turns_5 : decode cX9_turns 5 = .ok (.ifCond .eq 26, 3) := by decide +kernel
theorem dX9_turns_8 : decode cX9_turns 8 = .ok (.iload_n 2, 1) := by decide +kernel
theorem dX9_turns_9 : decode cX9_turns 9 = .ok (.iconst 0, 1) := by decide +kernel
theorem dX9_turns_10 : decode cX9_turns 10 = .ok (.iconst 5, 1) := by decide +kernel
theorem dX9_turns_11 : decode cX9_turns 11 = .ok (.invokestatic 75, 3) := by decide +kernel
theorem dX9_turns_14 : decode cX9_turns 14 = .ok (.ifCond .eq 17, 3) := by decide +kernel
theorem dX9_turns_17 : decode cX9_turns 17 = .ok (.aload_n 0, 1) := by decide +kernel
theorem dX9_turns_18 : decode cX9_turns 18 = .ok (.bipush 16, 2) := by decide +kernel
theorem dX9_turns_20 : decode cX9_turns 20 = .ok (.iconst 5, 1) := by decide +kernel
theorem dX9_turns_21 : decode cX9_turns 21 = .ok (.iload_n 1, 1) := by decide +kernel
theorem dX9_turns_22 : decode cX9_turns 22 = .ok (.imul, 1) := by decide +kernel
theorem dX9_turns_23 : decode cX9_turns 23 = .ok (.iadd, 1) := by decide +kernel
theorem dX9_turns_24 : decode cX9_turns 24 = .ok (.iload_n 2, 1) := by decide +kernel
theorem dX9_turns_25 : decode cX9_turns 25 = .ok (.invokevirtual 122, 3) := by decide +kernel
theorem dX9_turns_28 : decode cX9_turns 28 = .ok (.goto 5, 3) := by decide +kernel
theorem dX9_turns_31 : decode cX9_turns 31 = .ok (.ldc 83, 2) := by decide +kernel
theorem dX9_turns_33 : decode cX9_turns 33 = .ok (.ireturn, 1) := by decide +kernel
theorem dX9_set_0 : decode cX9_set 0 = .ok (.aload_n 0, 1) := by decide +kernel
theorem dX9_set_1 : decode cX9_set 1 = .ok (.iload_n 1, 1) := by decide +kernel
theorem dX9_set_2 : decode cX9_set 2 = .ok (.invokevirtual 93, 3) := by decide +kernel
theorem dX9_set_5 : decode cX9_set 5 = .ok (.ifCond .eq 48, 3) := by decide +kernel
theorem dX9_set_8 : decode cX9_set 8 = .ok (.iload_n 2, 1) := by decide +kernel
theorem dX9_set_9 : decode cX9_set 9 = .ok (.iconst 1, 1) := by decide +kernel
theorem dX9_set_10 : decode cX9_set 10 = .ok (.iconst 2, 1) := by decide +kernel
theorem dX9_set_11 : decode cX9_set 11 = .ok (.invokestatic 75, 3) := by decide +kernel
theorem dX9_set_14 : decode cX9_set 14 = .ok (.ifCond .eq 39, 3) := by decide +kernel
theorem dX9_set_17 : decode cX9_set 17 = .ok (.iload_n 3, 1) := by decide +kernel
theorem dX9_set_18 : decode cX9_set 18 = .ok (.iconst 0, 1) := by decide +kernel
theorem dX9_set_19 : decode cX9_set 19 = .ok (.iload_n 2, 1) := by decide +kernel
theorem dX9_set_20 : decode cX9_set 20 = .ok (.iconst 1, 1) := by decide +kernel
theorem dX9_set_21 : decode cX9_set 21 = .ok (.if_icmp .ne 8, 3) := by decide +kernel
theorem dX9_set_24 : decode cX9_set 24 = .ok (.bipush 8, 2) := by decide +kernel
theorem dX9_set_26 : decode cX9_set 26 = .ok (.goto 5, 3) := by decide +kernel
theorem dX9_set_29 : decode cX9_set 29 = .ok (.bipush 20, 2) := by decide +kernel
theorem dX9_set_31 : decode cX9_set 31 = .ok (.invokestatic 75, 3) := by decide +kernel
theorem dX9_set_34 : decode cX9_set 34 = .ok (.ifCond .eq 19, 3) := by decide +kernel
theorem dX9_set_37 : decode cX9_set 37 = .ok (.aload_n 0, 1) := by decide +kernel
theorem dX9_set_38 : decode cX9_set 38 = .ok (.bipush 16, 2) := by decide +kernel
theorem dX9_set_40 : decode cX9_set 40 = .ok (.iconst 5, 1) := by decide +kernel
theorem dX9_set_41 : decode cX9_set 41 = .ok (.iload_n 1, 1) := by decide +kernel
theorem dX9_set_42 : decode cX9_set 42 = .ok (.imul, 1) := by decide +kernel
theorem dX9_set_43 : decode cX9_set 43 = .ok (.iadd, 1) := by decide +kernel
theorem dX9_set_44 : decode cX9_set 44 = .ok (.iload_n 2, 1) := by decide +kernel
theorem dX9_set_45 : decode cX9_set 45 = .ok (.iadd, 1) := by decide +kernel
theorem dX9_set_46 : decode cX9_set 46 = .ok (.iload_n 3, 1) := by decide +kernel
theorem dX9_set_47 : decode cX9_set 47 = .ok (.invokevirtual 122, 3) := by decide +kernel
theorem dX9_set_50 : decode cX9_set 50 = .ok (.goto 5, 3) := by decide +kernel
theorem dX9_set_53 : decode cX9_set 53 = .ok (.ldc 83, 2) := by decide +kernel
theorem dX9_set_55 : decode cX9_set 55 = .ok (.ireturn, 1) := by decide +kernel
theorem dX9_rent_0 : decode cX9_rent 0 = .ok (.iload_n 1, 1) := by decide +kernel
theorem dX9_rent_1 : decode cX9_rent 1 = .ok (.invokestatic 125, 3) := by decide +kernel
theorem dX9_rent_4 : decode cX9_rent 4 = .ok (.ifCond .eq 25, 3) := by decide +kernel
theorem dX9_rent_7 : decode cX9_rent 7 = .ok (.iload_n 2, 1) := by decide +kernel
theorem dX9_rent_8 : decode cX9_rent 8 = .ok (.iconst 0, 1) := by decide +kernel
theorem dX9_rent_9 : decode cX9_rent 9 = .ok (.bipush 9, 2) := by decide +kernel
theorem dX9_rent_11 : decode cX9_rent 11 = .ok (.invokestatic 75, 3) := by decide +kernel
theorem dX9_rent_14 : decode cX9_rent 14 = .ok (.ifCond .eq 15, 3) := by decide +kernel
theorem dX9_rent_17 : decode cX9_rent 17 = .ok (.aload_n 0, 1) := by decide +kernel
theorem dX9_rent_18 : decode cX9_rent 18 = .ok (.bipush 8, 2) := by decide +kernel
theorem dX9_rent_20 : decode cX9_rent 20 = .ok (.iload_n 1, 1) := by decide +kernel
theorem dX9_rent_21 : decode cX9_rent 21 = .ok (.iadd, 1) := by decide +kernel
theorem dX9_rent_22 : decode cX9_rent 22 = .ok (.iload_n 2, 1) := by decide +kernel
theorem dX9_rent_23 : decode cX9_rent 23 = .ok (.invokevirtual 122, 3) := by decide +kernel
theorem dX9_rent_26 : decode cX9_rent 26 = .ok (.goto 5, 3) := by decide +kernel
theorem dX9_rent_29 : decode cX9_rent 29 = .ok (.ldc 83, 2) := by decide +kernel
theorem dX9_rent_31 : decode cX9_rent 31 = .ok (.ireturn, 1) := by decide +kernel
theorem dX9_rule_0 : decode cX9_rule 0 = .ok (.iload_n 1, 1) := by decide +kernel
theorem dX9_rule_1 : decode cX9_rule 1 = .ok (.iconst 0, 1) := by decide +kernel
theorem dX9_rule_2 : decode cX9_rule 2 = .ok (.iconst 2, 1) := by decide +kernel
theorem dX9_rule_3 : decode cX9_rule 3 = .ok (.invokestatic 75, 3) := by decide +kernel
theorem dX9_rule_6 : decode cX9_rule 6 = .ok (.ifCond .eq 42, 3) := by decide +kernel
theorem dX9_rule_9 : decode cX9_rule 9 = .ok (.iload_n 2, 1) := by decide +kernel
theorem dX9_rule_10 : decode cX9_rule 10 = .ok (.iconst 0, 1) := by decide +kernel
theorem dX9_rule_11 : decode cX9_rule 11 = .ok (.iload_n 1, 1) := by decide +kernel
theorem dX9_rule_12 : decode cX9_rule 12 = .ok (.ifCond .ne 8, 3) := by decide +kernel
theorem dX9_rule_15 : decode cX9_rule 15 = .ok (.bipush 100, 2) := by decide +kernel
theorem dX9_rule_17 : decode cX9_rule 17 = .ok (.goto 14, 3) := by decide +kernel
theorem dX9_rule_20 : decode cX9_rule 20 = .ok (.iload_n 1, 1) := by decide +kernel
theorem dX9_rule_21 : decode cX9_rule 21 = .ok (.iconst 1, 1) := by decide +kernel
theorem dX9_rule_22 : decode cX9_rule 22 = .ok (.if_icmp .ne 7, 3) := by decide +kernel
theorem dX9_rule_25 : decode cX9_rule 25 = .ok (.iconst 1, 1) := by decide +kernel
theorem dX9_rule_26 : decode cX9_rule 26 = .ok (.goto 5, 3) := by decide +kernel
theorem dX9_rule_29 : decode cX9_rule 29 = .ok (.bipush 8, 2) := by decide +kernel
theorem dX9_rule_31 : decode cX9_rule 31 = .ok (.invokestatic 75, 3) := by decide +kernel
theorem dX9_rule_34 : decode cX9_rule 34 = .ok (.ifCond .eq 14, 3) := by decide +kernel
theorem dX9_rule_37 : decode cX9_rule 37 = .ok (.aload_n 0, 1) := by decide +kernel
theorem dX9_rule_38 : decode cX9_rule 38 = .ok (.iconst 3, 1) := by decide +kernel
theorem dX9_rule_39 : decode cX9_rule 39 = .ok (.iload_n 1, 1) := by decide +kernel
theorem dX9_rule_40 : decode cX9_rule 40 = .ok (.iadd, 1) := by decide +kernel
theorem dX9_rule_41 : decode cX9_rule 41 = .ok (.iload_n 2, 1) := by decide +kernel
theorem dX9_rule_42 : decode cX9_rule 42 = .ok (.invokevirtual 122, 3) := by decide +kernel
theorem dX9_rule_45 : decode cX9_rule 45 = .ok (.goto 5, 3) := by decide +kernel
theorem dX9_rule_48 : decode cX9_rule 48 = .ok (.ldc 83, 2) := by decide +kernel
theorem dX9_rule_50 : decode cX9_rule 50 = .ok (.ireturn, 1) := by decide +kernel
theorem dX9_draw_0 : decode cX9_draw 0 = .ok (.aload_n 0, 1) := by decide +kernel
theorem dX9_draw_1 : decode cX9_draw 1 = .ok (.getfield 9, 3) := by decide +kernel
theorem dX9_draw_4 : decode cX9_draw 4 = .ok (.iconst 0, 1) := by decide +kernel
theorem dX9_draw_5 : decode cX9_draw 5 = .ok (.aload_n 0, 1) := by decide +kernel
theorem dX9_draw_6 : decode cX9_draw 6 = .ok (.getfield 9, 3) := by decide +kernel
theorem dX9_draw_9 : decode cX9_draw 9 = .ok (.iconst 0, 1) := by decide +kernel
theorem dX9_draw_10 : decode cX9_draw 10 = .ok (.iaload, 1) := by decide +kernel
theorem dX9_draw_11 : decode cX9_draw 11 = .ok (.ldc 128, 2) := by decide +kernel
theorem dX9_draw_13 : decode cX9_draw 13 = .ok (.imul, 1) := by decide +kernel
theorem dX9_draw_14 : decode cX9_draw 14 = .ok (.sipush 12345, 3) := by decide +kernel
theorem dX9_draw_17 : decode cX9_draw 17 = .ok (.iadd, 1) := by decide +kernel
theorem dX9_draw_18 : decode cX9_draw 18 = .ok (.iastore, 1) := by decide +kernel
theorem dX9_draw_19 : decode cX9_draw 19 = .ok (.aload_n 0, 1) := by decide +kernel
theorem dX9_draw_20 : decode cX9_draw 20 = .ok (.getfield 9, 3) := by decide +kernel
theorem dX9_draw_23 : decode cX9_draw 23 = .ok (.iconst 0, 1) := by decide +kernel
theorem dX9_draw_24 : decode cX9_draw 24 = .ok (.iaload, 1) := by decide +kernel
theorem dX9_draw_25 : decode cX9_draw 25 = .ok (.bipush 8, 2) := by decide +kernel
theorem dX9_draw_27 : decode cX9_draw 27 = .ok (.iushr, 1) := by decide +kernel
theorem dX9_draw_28 : decode cX9_draw 28 = .ok (.ireturn, 1) := by decide +kernel
theorem dX9_deal_0 : decode cX9_deal 0 = .ok (.iload_n 1, 1) := by decide +kernel
theorem dX9_deal_1 : decode cX9_deal 1 = .ok (.iconst 1, 1) := by decide +kernel
theorem dX9_deal_2 : decode cX9_deal 2 = .ok (.bipush 8, 2) := by decide +kernel
theorem dX9_deal_4 : decode cX9_deal 4 = .ok (.invokestatic 75, 3) := by decide +kernel
theorem dX9_deal_7 : decode cX9_deal 7 = .ok (.ifCond .ne 6, 3) := by decide +kernel
theorem dX9_deal_10 : decode cX9_deal 10 = .ok (.ldc 83, 2) := by decide +kernel
theorem dX9_deal_12 : decode cX9_deal 12 = .ok (.ireturn, 1) := by decide +kernel
theorem dX9_deal_13 : decode cX9_deal 13 = .ok (.iconst 0, 1) := by decide +kernel
theorem dX9_deal_14 : decode cX9_deal 14 = .ok (.istore_n 2, 1) := by decide +kernel
theorem dX9_deal_15 : decode cX9_deal 15 = .ok (.iload_n 2, 1) := by decide +kernel
theorem dX9_deal_16 : decode cX9_deal 16 = .ok (.iload_n 1, 1) := by decide +kernel
theorem dX9_deal_17 : decode cX9_deal 17 = .ok (.if_icmp .ge 53, 3) := by decide +kernel
theorem dX9_deal_20 : decode cX9_deal 20 = .ok (.aload_n 0, 1) := by decide +kernel
theorem dX9_deal_21 : decode cX9_deal 21 = .ok (.getfield 9, 3) := by decide +kernel
theorem dX9_deal_24 : decode cX9_deal 24 = .ok (.iconst 1, 1) := by decide +kernel
theorem dX9_deal_25 : decode cX9_deal 25 = .ok (.iaload, 1) := by decide +kernel
theorem dX9_deal_26 : decode cX9_deal 26 = .ok (.bipush 8, 2) := by decide +kernel
theorem dX9_deal_28 : decode cX9_deal 28 = .ok (.if_icmp .ge 42, 3) := by decide +kernel
theorem dX9_deal_31 : decode cX9_deal 31 = .ok (.aload_n 0, 1) := by decide +kernel
theorem dX9_deal_32 : decode cX9_deal 32 = .ok (.invokevirtual 129, 3) := by decide +kernel
theorem dX9_deal_35 : decode cX9_deal 35 = .ok (.bipush 6, 2) := by decide +kernel
theorem dX9_deal_37 : decode cX9_deal 37 = .ok (.irem, 1) := by decide +kernel
theorem dX9_deal_38 : decode cX9_deal 38 = .ok (.istore_n 3, 1) := by decide +kernel
theorem dX9_deal_39 : decode cX9_deal 39 = .ok (.aload_n 0, 1) := by decide +kernel
theorem dX9_deal_40 : decode cX9_deal 40 = .ok (.invokevirtual 129, 3) := by decide +kernel
theorem dX9_deal_43 : decode cX9_deal 43 = .ok (.bipush 9, 2) := by decide +kernel
theorem dX9_deal_45 : decode cX9_deal 45 = .ok (.irem, 1) := by decide +kernel
theorem dX9_deal_46 : decode cX9_deal 46 = .ok (.istore 4, 2) := by decide +kernel
theorem dX9_deal_48 : decode cX9_deal 48 = .ok (.aload_n 0, 1) := by decide +kernel
theorem dX9_deal_49 : decode cX9_deal 49 = .ok (.iload_n 3, 1) := by decide +kernel
theorem dX9_deal_50 : decode cX9_deal 50 = .ok (.iload 4, 2) := by decide +kernel
theorem dX9_deal_52 : decode cX9_deal 52 = .ok (.aload_n 0, 1) := by decide +kernel
theorem dX9_deal_53 : decode cX9_deal 53 = .ok (.invokevirtual 129, 3) := by decide +kernel
theorem dX9_deal_56 : decode cX9_deal 56 = .ok (.bipush 21, 2) := by decide +kernel
theorem dX9_deal_58 : decode cX9_deal 58 = .ok (.irem, 1) := by decide +kernel
theorem dX9_deal_59 : decode cX9_deal 59 = .ok (.invokevirtual 85, 3) := by decide +kernel
theorem dX9_deal_62 : decode cX9_deal 62 = .ok (.istore 5, 2) := by decide +kernel
theorem dX9_deal_64 : decode cX9_deal 64 = .ok (.iinc 2 1, 3) := by decide +kernel
theorem dX9_deal_67 : decode cX9_deal 67 = .ok (.goto (-52), 3) := by decide +kernel
theorem dX9_deal_70 : decode cX9_deal 70 = .ok (.iload_n 2, 1) := by decide +kernel
theorem dX9_deal_71 : decode cX9_deal 71 = .ok (.ireturn, 1) := by decide +kernel
theorem dX9_seed_0 : decode cX9_seed 0 = .ok (.aload_n 0, 1) := by decide +kernel
theorem dX9_seed_1 : decode cX9_seed 1 = .ok (.iconst 0, 1) := by decide +kernel
theorem dX9_seed_2 : decode cX9_seed 2 = .ok (.iload_n 1, 1) := by decide +kernel
theorem dX9_seed_3 : decode cX9_seed 3 = .ok (.invokevirtual 122, 3) := by decide +kernel
theorem dX9_seed_6 : decode cX9_seed 6 = .ok (.ireturn, 1) := by decide +kernel
theorem dX9_passes_0 : decode cX9_passes 0 = .ok (.bipush 9, 2) := by decide +kernel
theorem dX9_passes_2 : decode cX9_passes 2 = .ok (.istore 5, 2) := by decide +kernel
theorem dX9_passes_4 : decode cX9_passes 4 = .ok (.iload_n 1, 1) := by decide +kernel
theorem dX9_passes_5 : decode cX9_passes 5 = .ok (.iload_n 2, 1) := by decide +kernel
theorem dX9_passes_6 : decode cX9_passes 6 = .ok (.if_icmp .ge 7, 3) := by decide +kernel
theorem dX9_passes_9 : decode cX9_passes 9 = .ok (.iconst 1, 1) := by decide +kernel
theorem dX9_passes_10 : decode cX9_passes 10 = .ok (.goto 4, 3) := by decide +kernel
theorem dX9_passes_13 : decode cX9_passes 13 = .ok (.iconst (-1), 1) := by decide +kernel
theorem dX9_passes_14 : decode cX9_passes 14 = .ok (.istore 6, 2) := by decide +kernel
theorem dX9_passes_16 : decode cX9_passes 16 = .ok (.iload_n 1, 1) := by decide +kernel
theorem dX9_passes_17 : decode cX9_passes 17 = .ok (.istore 7, 2) := by decide +kernel
theorem dX9_passes_19 : decode cX9_passes 19 = .ok (.iload 7, 2) := by decide +kernel
theorem dX9_passes_21 : decode cX9_passes 21 = .ok (.iload_n 2, 1) := by decide +kernel
theorem dX9_passes_22 : decode cX9_passes 22 = .ok (.iload 6, 2) := by decide +kernel
theorem dX9_passes_24 : decode cX9_passes 24 = .ok (.iadd, 1) := by decide +kernel
theorem dX9_passes_25 : decode cX9_passes 25 = .ok (.if_icmp .eq 112, 3) := by decide +kernel
theorem dX9_passes_28 : decode cX9_passes 28 = .ok (.iconst 0, 1) := by decide +kernel
theorem dX9_passes_29 : decode cX9_passes 29 = .ok (.istore 8, 2) := by decide +kernel
theorem dX9_passes_31 : decode cX9_passes 31 = .ok (.iload 8, 2) := by decide +kernel
theorem dX9_passes_33 : decode cX9_passes 33 = .ok (.aload_n 0, 1) := by decide +kernel
theorem dX9_passes_34 : decode cX9_passes 34 = .ok (.getfield 9, 3) := by decide +kernel
theorem dX9_passes_37 : decode cX9_passes 37 = .ok (.iconst 1, 1) := by decide +kernel
theorem dX9_passes_38 : decode cX9_passes 38 = .ok (.iaload, 1) := by decide +kernel
theorem dX9_passes_39 : decode cX9_passes 39 = .ok (.if_icmp .ge 88, 3) := by decide +kernel
theorem dX9_passes_42 : decode cX9_passes 42 = .ok (.aload_n 0, 1) := by decide +kernel
theorem dX9_passes_43 : decode cX9_passes 43 = .ok (.iload 8, 2) := by decide +kernel
theorem dX9_passes_45 : decode cX9_passes 45 = .ok (.iconst 1, 1) := by decide +kernel
theorem dX9_passes_46 : decode cX9_passes 46 = .ok (.invokevirtual 89, 3) := by decide +kernel
theorem dX9_passes_49 : decode cX9_passes 49 = .ok (.iload 7, 2) := by decide +kernel
theorem dX9_passes_51 : decode cX9_passes 51 = .ok (.if_icmp .ne 17, 3) := by decide +kernel
theorem dX9_passes_54 : decode cX9_passes 54 = .ok (.aload_n 0, 1) := by decide +kernel
theorem dX9_passes_55 : decode cX9_passes 55 = .ok (.iload 8, 2) := by decide +kernel
theorem dX9_passes_57 : decode cX9_passes 57 = .ok (.iload_n 3, 1) := by decide +kernel
theorem dX9_passes_58 : decode cX9_passes 58 = .ok (.iload 4, 2) := by decide +kernel
theorem dX9_passes_60 : decode cX9_passes 60 = .ok (.iload 5, 2) := by decide +kernel
theorem dX9_passes_62 : decode cX9_passes 62 = .ok (.invokevirtual 113, 3) := by decide +kernel
theorem dX9_passes_65 : decode cX9_passes 65 = .ok (.goto 4, 3) := by decide +kernel
theorem dX9_passes_68 : decode cX9_passes 68 = .ok (.iconst 0, 1) := by decide +kernel
theorem dX9_passes_69 : decode cX9_passes 69 = .ok (.istore 9, 2) := by decide +kernel
theorem dX9_passes_71 : decode cX9_passes 71 = .ok (.iload 9, 2) := by decide +kernel
theorem dX9_passes_73 : decode cX9_passes 73 = .ok (.ifCond .le 48, 3) := by decide +kernel
theorem dX9_passes_76 : decode cX9_passes 76 = .ok (.aload_n 0, 1) := by decide +kernel
theorem dX9_passes_77 : decode cX9_passes 77 = .ok (.iload 8, 2) := by decide +kernel
theorem dX9_passes_79 : decode cX9_passes 79 = .ok (.iconst 3, 1) := by decide +kernel
theorem dX9_passes_80 : decode cX9_passes 80 = .ok (.aload_n 0, 1) := by decide +kernel
theorem dX9_passes_81 : decode cX9_passes 81 = .ok (.iload 8, 2) := by decide +kernel
theorem dX9_passes_83 : decode cX9_passes 83 = .ok (.iconst 3, 1) := by decide +kernel
theorem dX9_passes_84 : decode cX9_passes 84 = .ok (.invokevirtual 89, 3) := by decide +kernel
theorem dX9_passes_87 : decode cX9_passes 87 = .ok (.iload 9, 2) := by decide +kernel
theorem dX9_passes_89 : decode cX9_passes 89 = .ok (.iadd, 1) := by decide +kernel
theorem dX9_passes_90 : decode cX9_passes 90 = .ok (.invokevirtual 79, 3) := by decide +kernel
theorem dX9_passes_93 : decode cX9_passes 93 = .ok (.aload_n 0, 1) := by decide +kernel
theorem dX9_passes_94 : decode cX9_passes 94 = .ok (.iload 8, 2) := by decide +kernel
theorem dX9_passes_96 : decode cX9_passes 96 = .ok (.iconst 4, 1) := by decide +kernel
theorem dX9_passes_97 : decode cX9_passes 97 = .ok (.aload_n 0, 1) := by decide +kernel
theorem dX9_passes_98 : decode cX9_passes 98 = .ok (.iload 8, 2) := by decide +kernel
theorem dX9_passes_100 : decode cX9_passes 100 = .ok (.iconst 4, 1) := by decide +kernel
theorem dX9_passes_101 : decode cX9_passes 101 = .ok (.invokevirtual 89, 3) := by decide +kernel
theorem dX9_passes_104 : decode cX9_passes 104 = .ok (.iconst 1, 1) := by decide +kernel
theorem dX9_passes_105 : decode cX9_passes 105 = .ok (.iadd, 1) := by decide +kernel
theorem dX9_passes_106 : decode cX9_passes 106 = .ok (.invokevirtual 79, 3) := by decide +kernel
theorem dX9_passes_109 : decode cX9_passes 109 = .ok (.iload 5, 2) := by decide +kernel
theorem dX9_passes_111 : decode cX9_passes 111 = .ok (.iconst 3, 1) := by decide +kernel
theorem dX9_passes_112 : decode cX9_passes 112 = .ok (.isub, 1) := by decide +kernel
theorem dX9_passes_113 : decode cX9_passes 113 = .ok (.iconst 0, 1) := by decide +kernel
theorem dX9_passes_114 : decode cX9_passes 114 = .ok (.bipush 9, 2) := by decide +kernel
theorem dX9_passes_116 : decode cX9_passes 116 = .ok (.invokestatic 110, 3) := by decide +kernel
theorem dX9_passes_119 : decode cX9_passes 119 = .ok (.istore 5, 2) := by decide +kernel
theorem dX9_passes_121 : decode cX9_passes 121 = .ok (.iinc 8 1, 3) := by decide +kernel
theorem dX9_passes_124 : decode cX9_passes 124 = .ok (.goto (-93), 3) := by decide +kernel
theorem dX9_passes_127 : decode cX9_passes 127 = .ok (.iload 7, 2) := by decide +kernel
theorem dX9_passes_129 : decode cX9_passes 129 = .ok (.iload 6, 2) := by decide +kernel
theorem dX9_passes_131 : decode cX9_passes 131 = .ok (.iadd, 1) := by decide +kernel
theorem dX9_passes_132 : decode cX9_passes 132 = .ok (.istore 7, 2) := by decide +kernel
theorem dX9_passes_134 : decode cX9_passes 134 = .ok (.goto (-115), 3) := by decide +kernel
theorem dX9_passes_137 : decode cX9_passes 137 = .ok (.return_, 1) := by decide +kernel
theorem dX9_hour_0 : decode cX9_hour 0 = .ok (.aload_n 0, 1) := by decide +kernel
theorem dX9_hour_1 : decode cX9_hour 1 = .ok (.invokevirtual 129, 3) := by decide +kernel
theorem dX9_hour_4 : decode cX9_hour 4 = .ok (.bipush 100, 2) := by decide +kernel
theorem dX9_hour_6 : decode cX9_hour 6 = .ok (.irem, 1) := by decide +kernel
theorem dX9_hour_7 : decode cX9_hour 7 = .ok (.aload_n 0, 1) := by decide +kernel
theorem dX9_hour_8 : decode cX9_hour 8 = .ok (.getfield 9, 3) := by decide +kernel
theorem dX9_hour_11 : decode cX9_hour 11 = .ok (.iconst 3, 1) := by decide +kernel
theorem dX9_hour_12 : decode cX9_hour 12 = .ok (.iaload, 1) := by decide +kernel
theorem dX9_hour_13 : decode cX9_hour 13 = .ok (.if_icmp .ge 17, 3) := by decide +kernel
theorem dX9_hour_16 : decode cX9_hour 16 = .ok (.aload_n 0, 1) := by decide +kernel
theorem dX9_hour_17 : decode cX9_hour 17 = .ok (.getfield 9, 3) := by decide +kernel
theorem dX9_hour_20 : decode cX9_hour 20 = .ok (.iconst 4, 1) := by decide +kernel
theorem dX9_hour_21 : decode cX9_hour 21 = .ok (.iconst 1, 1) := by decide +kernel
theorem dX9_hour_22 : decode cX9_hour 22 = .ok (.aload_n 0, 1) := by decide +kernel
theorem dX9_hour_23 : decode cX9_hour 23 = .ok (.getfield 9, 3) := by decide +kernel
theorem dX9_hour_26 : decode cX9_hour 26 = .ok (.iconst 4, 1) := by decide +kernel
theorem dX9_hour_27 : decode cX9_hour 27 = .ok (.iaload, 1) := by decide +kernel
theorem dX9_hour_28 : decode cX9_hour 28 = .ok (.isub, 1) := by decide +kernel
theorem dX9_hour_29 : decode cX9_hour 29 = .ok (.iastore, 1) := by decide +kernel
theorem dX9_hour_30 : decode cX9_hour 30 = .ok (.iconst 0, 1) := by decide +kernel
theorem dX9_hour_31 : decode cX9_hour 31 = .ok (.istore_n 1, 1) := by decide +kernel
theorem dX9_hour_32 : decode cX9_hour 32 = .ok (.iload_n 1, 1) := by decide +kernel
theorem dX9_hour_33 : decode cX9_hour 33 = .ok (.aload_n 0, 1) := by decide +kernel
theorem dX9_hour_34 : decode cX9_hour 34 = .ok (.getfield 9, 3) := by decide +kernel
theorem dX9_hour_37 : decode cX9_hour 37 = .ok (.iconst 1, 1) := by decide +kernel
theorem dX9_hour_38 : decode cX9_hour 38 = .ok (.iaload, 1) := by decide +kernel
theorem dX9_hour_39 : decode cX9_hour 39 = .ok (.if_icmp .ge 64, 3) := by decide +kernel
theorem dX9_hour_42 : decode cX9_hour 42 = .ok (.aload_n 0, 1) := by decide +kernel
theorem dX9_hour_43 : decode cX9_hour 43 = .ok (.iload_n 1, 1) := by decide +kernel
theorem dX9_hour_44 : decode cX9_hour 44 = .ok (.iconst 1, 1) := by decide +kernel
theorem dX9_hour_45 : decode cX9_hour 45 = .ok (.invokevirtual 89, 3) := by decide +kernel
theorem dX9_hour_48 : decode cX9_hour 48 = .ok (.bipush 8, 2) := by decide +kernel
theorem dX9_hour_50 : decode cX9_hour 50 = .ok (.if_icmp .ne 7, 3) := by decide +kernel
theorem dX9_hour_53 : decode cX9_hour 53 = .ok (.iconst 0, 1) := by decide +kernel
theorem dX9_hour_54 : decode cX9_hour 54 = .ok (.goto 17, 3) := by decide +kernel
theorem dX9_hour_57 : decode cX9_hour 57 = .ok (.aload_n 0, 1) := by decide +kernel
theorem dX9_hour_58 : decode cX9_hour 58 = .ok (.getfield 9, 3) := by decide +kernel
theorem dX9_hour_61 : decode cX9_hour 61 = .ok (.bipush 8, 2) := by decide +kernel
theorem dX9_hour_63 : decode cX9_hour 63 = .ok (.aload_n 0, 1) := by decide +kernel
theorem dX9_hour_64 : decode cX9_hour 64 = .ok (.iload_n 1, 1) := by decide +kernel
theorem dX9_hour_65 : decode cX9_hour 65 = .ok (.iconst 1, 1) := by decide +kernel
theorem dX9_hour_66 : decode cX9_hour 66 = .ok (.invokevirtual 89, 3) := by decide +kernel
theorem dX9_hour_69 : decode cX9_hour 69 = .ok (.iadd, 1) := by decide +kernel
theorem dX9_hour_70 : decode cX9_hour 70 = .ok (.iaload, 1) := by decide +kernel
theorem dX9_hour_71 : decode cX9_hour 71 = .ok (.istore_n 2, 1) := by decide +kernel
theorem dX9_hour_72 : decode cX9_hour 72 = .ok (.aload_n 0, 1) := by decide +kernel
theorem dX9_hour_73 : decode cX9_hour 73 = .ok (.iload_n 1, 1) := by decide +kernel
theorem dX9_hour_74 : decode cX9_hour 74 = .ok (.iconst 3, 1) := by decide +kernel
theorem dX9_hour_75 : decode cX9_hour 75 = .ok (.aload_n 0, 1) := by decide +kernel
theorem dX9_hour_76 : decode cX9_hour 76 = .ok (.iload_n 1, 1) := by decide +kernel
theorem dX9_hour_77 : decode cX9_hour 77 = .ok (.iconst 3, 1) := by decide +kernel
theorem dX9_hour_78 : decode cX9_hour 78 = .ok (.invokevirtual 89, 3) := by decide +kernel
theorem dX9_hour_81 : decode cX9_hour 81 = .ok (.iload_n 2, 1) := by decide +kernel
theorem dX9_hour_82 : decode cX9_hour 82 = .ok (.isub, 1) := by decide +kernel
theorem dX9_hour_83 : decode cX9_hour 83 = .ok (.invokevirtual 79, 3) := by decide +kernel
theorem dX9_hour_86 : decode cX9_hour 86 = .ok (.aload_n 0, 1) := by decide +kernel
theorem dX9_hour_87 : decode cX9_hour 87 = .ok (.getfield 9, 3) := by decide +kernel
theorem dX9_hour_90 : decode cX9_hour 90 = .ok (.bipush 6, 2) := by decide +kernel
theorem dX9_hour_92 : decode cX9_hour 92 = .ok (.dup2, 1) := by decide +kernel
theorem dX9_hour_93 : decode cX9_hour 93 = .ok (.iaload, 1) := by decide +kernel
theorem dX9_hour_94 : decode cX9_hour 94 = .ok (.iload_n 2, 1) := by decide +kernel
theorem dX9_hour_95 : decode cX9_hour 95 = .ok (.iadd, 1) := by decide +kernel
theorem dX9_hour_96 : decode cX9_hour 96 = .ok (.iastore, 1) := by decide +kernel
theorem dX9_hour_97 : decode cX9_hour 97 = .ok (.iinc 1 1, 3) := by decide +kernel
theorem dX9_hour_100 : decode cX9_hour 100 = .ok (.goto (-68), 3) := by decide +kernel
theorem dX9_hour_103 : decode cX9_hour 103 = .ok (.aload_n 0, 1) := by decide +kernel
theorem dX9_hour_104 : decode cX9_hour 104 = .ok (.getfield 9, 3) := by decide +kernel
theorem dX9_hour_107 : decode cX9_hour 107 = .ok (.iconst 4, 1) := by decide +kernel
theorem dX9_hour_108 : decode cX9_hour 108 = .ok (.iaload, 1) := by decide +kernel
theorem dX9_hour_109 : decode cX9_hour 109 = .ok (.istore_n 1, 1) := by decide +kernel
theorem dX9_hour_110 : decode cX9_hour 110 = .ok (.iload_n 1, 1) := by decide +kernel
theorem dX9_hour_111 : decode cX9_hour 111 = .ok (.iconst 3, 1) := by decide +kernel
theorem dX9_hour_112 : decode cX9_hour 112 = .ok (.if_icmp .ge 51, 3) := by decide +kernel
theorem dX9_hour_115 : decode cX9_hour 115 = .ok (.aload_n 0, 1) := by decide +kernel
theorem dX9_hour_116 : decode cX9_hour 116 = .ok (.invokevirtual 129, 3) := by decide +kernel
theorem dX9_hour_119 : decode cX9_hour 119 = .ok (.bipush 8, 2) := by decide +kernel
theorem dX9_hour_121 : decode cX9_hour 121 = .ok (.irem, 1) := by decide +kernel
theorem dX9_hour_122 : decode cX9_hour 122 = .ok (.istore_n 2, 1) := by decide +kernel
theorem dX9_hour_123 : decode cX9_hour 123 = .ok (.aload_n 0, 1) := by decide +kernel
theorem dX9_hour_124 : decode cX9_hour 124 = .ok (.invokevirtual 129, 3) := by decide +kernel
theorem dX9_hour_127 : decode cX9_hour 127 = .ok (.bipush 8, 2) := by decide +kernel
theorem dX9_hour_129 : decode cX9_hour 129 = .ok (.irem, 1) := by decide +kernel
theorem dX9_hour_130 : decode cX9_hour 130 = .ok (.istore_n 3, 1) := by decide +kernel
theorem dX9_hour_131 : decode cX9_hour 131 = .ok (.iconst 1, 1) := by decide +kernel
theorem dX9_hour_132 : decode cX9_hour 132 = .ok (.aload_n 0, 1) := by decide +kernel
theorem dX9_hour_133 : decode cX9_hour 133 = .ok (.invokevirtual 129, 3) := by decide +kernel
theorem dX9_hour_136 : decode cX9_hour 136 = .ok (.bipush 9, 2) := by decide +kernel
theorem dX9_hour_138 : decode cX9_hour 138 = .ok (.irem, 1) := by decide +kernel
theorem dX9_hour_139 : decode cX9_hour 139 = .ok (.iadd, 1) := by decide +kernel
theorem dX9_hour_140 : decode cX9_hour 140 = .ok (.istore 4, 2) := by decide +kernel
theorem dX9_hour_142 : decode cX9_hour 142 = .ok (.aload_n 0, 1) := by decide +kernel
theorem dX9_hour_143 : decode cX9_hour 143 = .ok (.iload_n 2, 1) := by decide +kernel
theorem dX9_hour_144 : decode cX9_hour 144 = .ok (.iload_n 3, 1) := by decide +kernel
theorem dX9_hour_145 : decode cX9_hour 145 = .ok (.iload 4, 2) := by decide +kernel
theorem dX9_hour_147 : decode cX9_hour 147 = .ok (.aload_n 0, 1) := by decide +kernel
theorem dX9_hour_148 : decode cX9_hour 148 = .ok (.invokevirtual 129, 3) := by decide +kernel
theorem dX9_hour_151 : decode cX9_hour 151 = .ok (.bipush 10, 2) := by decide +kernel
theorem dX9_hour_153 : decode cX9_hour 153 = .ok (.irem, 1) := by decide +kernel
theorem dX9_hour_154 : decode cX9_hour 154 = .ok (.invokevirtual 133, 3) := by decide +kernel
theorem dX9_hour_157 : decode cX9_hour 157 = .ok (.iinc 1 1, 3) := by decide +kernel
theorem dX9_hour_160 : decode cX9_hour 160 = .ok (.goto (-50), 3) := by decide +kernel
theorem dX9_hour_163 : decode cX9_hour 163 = .ok (.aload_n 0, 1) := by decide +kernel
theorem dX9_hour_164 : decode cX9_hour 164 = .ok (.getfield 9, 3) := by decide +kernel
theorem dX9_hour_167 : decode cX9_hour 167 = .ok (.iconst 5, 1) := by decide +kernel
theorem dX9_hour_168 : decode cX9_hour 168 = .ok (.iaload, 1) := by decide +kernel
theorem dX9_hour_169 : decode cX9_hour 169 = .ok (.bipush 8, 2) := by decide +kernel
theorem dX9_hour_171 : decode cX9_hour 171 = .ok (.if_icmp .eq 23, 3) := by decide +kernel
theorem dX9_hour_174 : decode cX9_hour 174 = .ok (.aload_n 0, 1) := by decide +kernel
theorem dX9_hour_175 : decode cX9_hour 175 = .ok (.aload_n 0, 1) := by decide +kernel
theorem dX9_hour_176 : decode cX9_hour 176 = .ok (.getfield 9, 3) := by decide +kernel
theorem dX9_hour_179 : decode cX9_hour 179 = .ok (.iconst 5, 1) := by decide +kernel
theorem dX9_hour_180 : decode cX9_hour 180 = .ok (.iaload, 1) := by decide +kernel
theorem dX9_hour_181 : decode cX9_hour 181 = .ok (.aload_n 0, 1) := by decide +kernel
theorem dX9_hour_182 : decode cX9_hour 182 = .ok (.getfield 9, 3) := by decide +kernel
theorem dX9_hour_185 : decode cX9_hour 185 = .ok (.iconst 5, 1) := by decide +kernel
theorem dX9_hour_186 : decode cX9_hour 186 = .ok (.iaload, 1) := by decide +kernel
theorem dX9_hour_187 : decode cX9_hour 187 = .ok (.bipush 9, 2) := by decide +kernel
theorem dX9_hour_189 : decode cX9_hour 189 = .ok (.bipush 9, 2) := by decide +kernel
theorem dX9_hour_191 : decode cX9_hour 191 = .ok (.invokevirtual 133, 3) := by decide +kernel
theorem dX9_hour_194 : decode cX9_hour 194 = .ok (.aload_n 0, 1) := by decide +kernel
theorem dX9_hour_195 : decode cX9_hour 195 = .ok (.getfield 9, 3) := by decide +kernel
theorem dX9_hour_198 : decode cX9_hour 198 = .ok (.iconst 2, 1) := by decide +kernel
theorem dX9_hour_199 : decode cX9_hour 199 = .ok (.dup2, 1) := by decide +kernel
theorem dX9_hour_200 : decode cX9_hour 200 = .ok (.iaload, 1) := by decide +kernel
theorem dX9_hour_201 : decode cX9_hour 201 = .ok (.iconst 1, 1) := by decide +kernel
theorem dX9_hour_202 : decode cX9_hour 202 = .ok (.iadd, 1) := by decide +kernel
theorem dX9_hour_203 : decode cX9_hour 203 = .ok (.iastore, 1) := by decide +kernel
theorem dX9_hour_204 : decode cX9_hour 204 = .ok (.return_, 1) := by decide +kernel
theorem dX9_goesOn_0 : decode cX9_goesOn 0 = .ok (.iconst 0, 1) := by decide +kernel
theorem dX9_goesOn_1 : decode cX9_goesOn 1 = .ok (.istore_n 2, 1) := by decide +kernel
theorem dX9_goesOn_2 : decode cX9_goesOn 2 = .ok (.iload_n 2, 1) := by decide +kernel
theorem dX9_goesOn_3 : decode cX9_goesOn 3 = .ok (.iload_n 1, 1) := by decide +kernel
theorem dX9_goesOn_4 : decode cX9_goesOn 4 = .ok (.if_icmp .ge 13, 3) := by decide +kernel
theorem dX9_goesOn_7 : decode cX9_goesOn 7 = .ok (.aload_n 0, 1) := by decide +kernel
theorem dX9_goesOn_8 : decode cX9_goesOn 8 = .ok (.invokevirtual 137, 3) := by decide +kernel
theorem dX9_goesOn_11 : decode cX9_goesOn 11 = .ok (.iinc 2 1, 3) := by decide +kernel
theorem dX9_goesOn_14 : decode cX9_goesOn 14 = .ok (.goto (-12), 3) := by decide +kernel
theorem dX9_goesOn_17 : decode cX9_goesOn 17 = .ok (.return_, 1) := by decide +kernel
theorem dX9_sumOf_0 : decode cX9_sumOf 0 = .ok (.iconst 0, 1) := by decide +kernel
theorem dX9_sumOf_1 : decode cX9_sumOf 1 = .ok (.istore_n 2, 1) := by decide +kernel
theorem dX9_sumOf_2 : decode cX9_sumOf 2 = .ok (.iconst 0, 1) := by decide +kernel
theorem dX9_sumOf_3 : decode cX9_sumOf 3 = .ok (.istore_n 3, 1) := by decide +kernel
theorem dX9_sumOf_4 : decode cX9_sumOf 4 = .ok (.iload_n 3, 1) := by decide +kernel
theorem dX9_sumOf_5 : decode cX9_sumOf 5 = .ok (.aload_n 0, 1) := by decide +kernel
theorem dX9_sumOf_6 : decode cX9_sumOf 6 = .ok (.getfield 9, 3) := by decide +kernel
theorem dX9_sumOf_9 : decode cX9_sumOf 9 = .ok (.iconst 1, 1) := by decide +kernel
theorem dX9_sumOf_10 : decode cX9_sumOf 10 = .ok (.iaload, 1) := by decide +kernel
theorem dX9_sumOf_11 : decode cX9_sumOf 11 = .ok (.if_icmp .ge 18, 3) := by decide +kernel
theorem dX9_sumOf_14 : decode cX9_sumOf 14 = .ok (.iload_n 2, 1) := by decide +kernel
theorem dX9_sumOf_15 : decode cX9_sumOf 15 = .ok (.aload_n 0, 1) := by decide +kernel
theorem dX9_sumOf_16 : decode cX9_sumOf 16 = .ok (.iload_n 3, 1) := by decide +kernel
theorem dX9_sumOf_17 : decode cX9_sumOf 17 = .ok (.iload_n 1, 1) := by decide +kernel
theorem dX9_sumOf_18 : decode cX9_sumOf 18 = .ok (.invokevirtual 89, 3) := by decide +kernel
theorem dX9_sumOf_21 : decode cX9_sumOf 21 = .ok (.iadd, 1) := by decide +kernel
theorem dX9_sumOf_22 : decode cX9_sumOf 22 = .ok (.istore_n 2, 1) := by decide +kernel
theorem dX9_sumOf_23 : decode cX9_sumOf 23 = .ok (.iinc 3 1, 3) := by decide +kernel
theorem dX9_sumOf_26 : decode cX9_sumOf 26 = .ok (.goto (-22), 3) := by decide +kernel
theorem dX9_sumOf_29 : decode cX9_sumOf 29 = .ok (.iload_n 2, 1) := by decide +kernel
theorem dX9_sumOf_30 : decode cX9_sumOf 30 = .ok (.ireturn, 1) := by decide +kernel
theorem dX9_hours_0 : decode cX9_hours 0 = .ok (.iload_n 1, 1) := by decide +kernel
theorem dX9_hours_1 : decode cX9_hours 1 = .ok (.iconst 1, 1) := by decide +kernel
theorem dX9_hours_2 : decode cX9_hours 2 = .ok (.bipush 100, 2) := by decide +kernel
theorem dX9_hours_4 : decode cX9_hours 4 = .ok (.invokestatic 75, 3) := by decide +kernel
theorem dX9_hours_7 : decode cX9_hours 7 = .ok (.ifCond .ne 6, 3) := by decide +kernel
theorem dX9_hours_10 : decode cX9_hours 10 = .ok (.ldc 83, 2) := by decide +kernel
theorem dX9_hours_12 : decode cX9_hours 12 = .ok (.ireturn, 1) := by decide +kernel
theorem dX9_hours_13 : decode cX9_hours 13 = .ok (.aload_n 0, 1) := by decide +kernel
theorem dX9_hours_14 : decode cX9_hours 14 = .ok (.iconst 4, 1) := by decide +kernel
theorem dX9_hours_15 : decode cX9_hours 15 = .ok (.invokevirtual 140, 3) := by decide +kernel
theorem dX9_hours_18 : decode cX9_hours 18 = .ok (.istore_n 2, 1) := by decide +kernel
theorem dX9_hours_19 : decode cX9_hours 19 = .ok (.aload_n 0, 1) := by decide +kernel
theorem dX9_hours_20 : decode cX9_hours 20 = .ok (.sipush 9999, 3) := by decide +kernel
theorem dX9_hours_23 : decode cX9_hours 23 = .ok (.aload_n 0, 1) := by decide +kernel
theorem dX9_hours_24 : decode cX9_hours 24 = .ok (.getfield 9, 3) := by decide +kernel
theorem dX9_hours_27 : decode cX9_hours 27 = .ok (.iconst 2, 1) := by decide +kernel
theorem dX9_hours_28 : decode cX9_hours 28 = .ok (.iaload, 1) := by decide +kernel
theorem dX9_hours_29 : decode cX9_hours 29 = .ok (.isub, 1) := by decide +kernel
theorem dX9_hours_30 : decode cX9_hours 30 = .ok (.iconst 0, 1) := by decide +kernel
theorem dX9_hours_31 : decode cX9_hours 31 = .ok (.iload_n 1, 1) := by decide +kernel
theorem dX9_hours_32 : decode cX9_hours 32 = .ok (.invokestatic 110, 3) := by decide +kernel
theorem dX9_hours_35 : decode cX9_hours 35 = .ok (.invokevirtual 143, 3) := by decide +kernel
theorem dX9_hours_38 : decode cX9_hours 38 = .ok (.aload_n 0, 1) := by decide +kernel
theorem dX9_hours_39 : decode cX9_hours 39 = .ok (.iconst 4, 1) := by decide +kernel
theorem dX9_hours_40 : decode cX9_hours 40 = .ok (.invokevirtual 140, 3) := by decide +kernel
theorem dX9_hours_43 : decode cX9_hours 43 = .ok (.iload_n 2, 1) := by decide +kernel
theorem dX9_hours_44 : decode cX9_hours 44 = .ok (.isub, 1) := by decide +kernel
theorem dX9_hours_45 : decode cX9_hours 45 = .ok (.ireturn, 1) := by decide +kernel
theorem dX9_against_0 : decode cX9_against 0 = .ok (.iconst 0, 1) := by decide +kernel
theorem dX9_against_1 : decode cX9_against 1 = .ok (.istore_n 1, 1) := by decide +kernel
theorem dX9_against_2 : decode cX9_against 2 = .ok (.iconst 0, 1) := by decide +kernel
theorem dX9_against_3 : decode cX9_against 3 = .ok (.istore_n 2, 1) := by decide +kernel
theorem dX9_against_4 : decode cX9_against 4 = .ok (.iload_n 2, 1) := by decide +kernel
theorem dX9_against_5 : decode cX9_against 5 = .ok (.aload_n 0, 1) := by decide +kernel
theorem dX9_against_6 : decode cX9_against 6 = .ok (.getfield 9, 3) := by decide +kernel
theorem dX9_against_9 : decode cX9_against 9 = .ok (.iconst 1, 1) := by decide +kernel
theorem dX9_against_10 : decode cX9_against 10 = .ok (.iaload, 1) := by decide +kernel
theorem dX9_against_11 : decode cX9_against 11 = .ok (.if_icmp .ge 27, 3) := by decide +kernel
theorem dX9_against_14 : decode cX9_against 14 = .ok (.iload_n 1, 1) := by decide +kernel
theorem dX9_against_15 : decode cX9_against 15 = .ok (.aload_n 0, 1) := by decide +kernel
theorem dX9_against_16 : decode cX9_against 16 = .ok (.iload_n 2, 1) := by decide +kernel
theorem dX9_against_17 : decode cX9_against 17 = .ok (.invokevirtual 101, 3) := by decide +kernel
theorem dX9_against_20 : decode cX9_against 20 = .ok (.ifCond .eq 9, 3) := by decide +kernel
theorem dX9_against_23 : decode cX9_against 23 = .ok (.iconst 1, 1) := by decide +kernel
theorem dX9_against_24 : decode cX9_against 24 = .ok (.iload_n 2, 1) := by decide +kernel
theorem dX9_against_25 : decode cX9_against 25 = .ok (.ishl, 1) := by decide +kernel
theorem dX9_against_26 : decode cX9_against 26 = .ok (.goto 4, 3) := by decide +kernel
theorem dX9_against_29 : decode cX9_against 29 = .ok (.iconst 0, 1) := by decide +kernel
theorem dX9_against_30 : decode cX9_against 30 = .ok (.ior, 1) := by decide +kernel
theorem dX9_against_31 : decode cX9_against 31 = .ok (.istore_n 1, 1) := by decide +kernel
theorem dX9_against_32 : decode cX9_against 32 = .ok (.iinc 2 1, 3) := by decide +kernel
theorem dX9_against_35 : decode cX9_against 35 = .ok (.goto (-31), 3) := by decide +kernel
theorem dX9_against_38 : decode cX9_against 38 = .ok (.iload_n 1, 1) := by decide +kernel
theorem dX9_against_39 : decode cX9_against 39 = .ok (.ireturn, 1) := by decide +kernel
theorem dX9_taken_0 : decode cX9_taken 0 = .ok (.iconst 0, 1) := by decide +kernel
theorem dX9_taken_1 : decode cX9_taken 1 = .ok (.istore_n 1, 1) := by decide +kernel
theorem dX9_taken_2 : decode cX9_taken 2 = .ok (.iconst 0, 1) := by decide +kernel
theorem dX9_taken_3 : decode cX9_taken 3 = .ok (.istore_n 2, 1) := by decide +kernel
theorem dX9_taken_4 : decode cX9_taken 4 = .ok (.iload_n 2, 1) := by decide +kernel
theorem dX9_taken_5 : decode cX9_taken 5 = .ok (.aload_n 0, 1) := by decide +kernel
theorem dX9_taken_6 : decode cX9_taken 6 = .ok (.getfield 9, 3) := by decide +kernel
theorem dX9_taken_9 : decode cX9_taken 9 = .ok (.iconst 1, 1) := by decide +kernel
theorem dX9_taken_10 : decode cX9_taken 10 = .ok (.iaload, 1) := by decide +kernel
theorem dX9_taken_11 : decode cX9_taken 11 = .ok (.if_icmp .ge 35, 3) := by decide +kernel
theorem dX9_taken_14 : decode cX9_taken 14 = .ok (.iload_n 1, 1) := by decide +kernel
theorem dX9_taken_15 : decode cX9_taken 15 = .ok (.aload_n 0, 1) := by decide +kernel
theorem dX9_taken_16 : decode cX9_taken 16 = .ok (.iload_n 2, 1) := by decide +kernel
theorem dX9_taken_17 : decode cX9_taken 17 = .ok (.iconst 1, 1) := by decide +kernel
theorem dX9_taken_18 : decode cX9_taken 18 = .ok (.invokevirtual 89, 3) := by decide +kernel
theorem dX9_taken_21 : decode cX9_taken 21 = .ok (.bipush 8, 2) := by decide +kernel
theorem dX9_taken_23 : decode cX9_taken 23 = .ok (.if_icmp .ne 7, 3) := by decide +kernel
theorem dX9_taken_26 : decode cX9_taken 26 = .ok (.iconst 0, 1) := by decide +kernel
theorem dX9_taken_27 : decode cX9_taken 27 = .ok (.goto 11, 3) := by decide +kernel
theorem dX9_taken_30 : decode cX9_taken 30 = .ok (.iconst 1, 1) := by decide +kernel
theorem dX9_taken_31 : decode cX9_taken 31 = .ok (.aload_n 0, 1) := by decide +kernel
theorem dX9_taken_32 : decode cX9_taken 32 = .ok (.iload_n 2, 1) := by decide +kernel
theorem dX9_taken_33 : decode cX9_taken 33 = .ok (.iconst 1, 1) := by decide +kernel
theorem dX9_taken_34 : decode cX9_taken 34 = .ok (.invokevirtual 89, 3) := by decide +kernel
theorem dX9_taken_37 : decode cX9_taken 37 = .ok (.ishl, 1) := by decide +kernel
theorem dX9_taken_38 : decode cX9_taken 38 = .ok (.ior, 1) := by decide +kernel
theorem dX9_taken_39 : decode cX9_taken 39 = .ok (.istore_n 1, 1) := by decide +kernel
theorem dX9_taken_40 : decode cX9_taken 40 = .ok (.iinc 2 1, 3) := by decide +kernel
theorem dX9_taken_43 : decode cX9_taken 43 = .ok (.goto (-39), 3) := by decide +kernel
theorem dX9_taken_46 : decode cX9_taken 46 = .ok (.iload_n 1, 1) := by decide +kernel
theorem dX9_taken_47 : decode cX9_taken 47 = .ok (.ireturn, 1) := by decide +kernel
theorem dX9_guild_0 : decode cX9_guild 0 = .ok (.iload_n 1, 1) := by decide +kernel
theorem dX9_guild_1 : decode cX9_guild 1 = .ok (.tableswitch 65 0 4 #[35, 41, 49, 55, 60], 35) := by decide +kernel
theorem dX9_guild_36 : decode cX9_guild 36 = .ok (.aload_n 0, 1) := by decide +kernel
theorem dX9_guild_37 : decode cX9_guild 37 = .ok (.iconst 3, 1) := by decide +kernel
theorem dX9_guild_38 : decode cX9_guild 38 = .ok (.invokevirtual 140, 3) := by decide +kernel
theorem dX9_guild_41 : decode cX9_guild 41 = .ok (.ireturn, 1) := by decide +kernel
theorem dX9_guild_42 : decode cX9_guild 42 = .ok (.aload_n 0, 1) := by decide +kernel
theorem dX9_guild_43 : decode cX9_guild 43 = .ok (.getfield 9, 3) := by decide +kernel
theorem dX9_guild_46 : decode cX9_guild 46 = .ok (.bipush 6, 2) := by decide +kernel
theorem dX9_guild_48 : decode cX9_guild 48 = .ok (.iaload, 1) := by decide +kernel
theorem dX9_guild_49 : decode cX9_guild 49 = .ok (.ireturn, 1) := by decide +kernel
theorem dX9_guild_50 : decode cX9_guild 50 = .ok (.aload_n 0, 1) := by decide +kernel
theorem dX9_guild_51 : decode cX9_guild 51 = .ok (.iconst 4, 1) := by decide +kernel
theorem dX9_guild_52 : decode cX9_guild 52 = .ok (.invokevirtual 140, 3) := by decide +kernel
theorem dX9_guild_55 : decode cX9_guild 55 = .ok (.ireturn, 1) := by decide +kernel
theorem dX9_guild_56 : decode cX9_guild 56 = .ok (.aload_n 0, 1) := by decide +kernel
theorem dX9_guild_57 : decode cX9_guild 57 = .ok (.invokevirtual 147, 3) := by decide +kernel
theorem dX9_guild_60 : decode cX9_guild 60 = .ok (.ireturn, 1) := by decide +kernel
theorem dX9_guild_61 : decode cX9_guild 61 = .ok (.aload_n 0, 1) := by decide +kernel
theorem dX9_guild_62 : decode cX9_guild 62 = .ok (.invokevirtual 150, 3) := by decide +kernel
theorem dX9_guild_65 : decode cX9_guild 65 = .ok (.ireturn, 1) := by decide +kernel
theorem dX9_guild_66 : decode cX9_guild 66 = .ok (.ldc 83, 2) := by decide +kernel
theorem dX9_guild_68 : decode cX9_guild 68 = .ok (.ireturn, 1) := by decide +kernel
theorem dX9_thinks_0 : decode cX9_thinks 0 = .ok (.iconst 0, 1) := by decide +kernel
theorem dX9_thinks_1 : decode cX9_thinks 1 = .ok (.istore_n 1, 1) := by decide +kernel
theorem dX9_thinks_2 : decode cX9_thinks 2 = .ok (.iload_n 1, 1) := by decide +kernel
theorem dX9_thinks_3 : decode cX9_thinks 3 = .ok (.bipush 61, 2) := by decide +kernel
theorem dX9_thinks_5 : decode cX9_thinks 5 = .ok (.if_icmp .ge 21, 3) := by decide +kernel
theorem dX9_thinks_8 : decode cX9_thinks 8 = .ok (.aload_n 0, 1) := by decide +kernel
theorem dX9_thinks_9 : decode cX9_thinks 9 = .ok (.getfield 19, 3) := by decide +kernel
theorem dX9_thinks_12 : decode cX9_thinks 12 = .ok (.iload_n 1, 1) := by decide +kernel
theorem dX9_thinks_13 : decode cX9_thinks 13 = .ok (.aload_n 0, 1) := by decide +kernel
theorem dX9_thinks_14 : decode cX9_thinks 14 = .ok (.getfield 9, 3) := by decide +kernel
theorem dX9_thinks_17 : decode cX9_thinks 17 = .ok (.iload_n 1, 1) := by decide +kernel
theorem dX9_thinks_18 : decode cX9_thinks 18 = .ok (.iaload, 1) := by decide +kernel
theorem dX9_thinks_19 : decode cX9_thinks 19 = .ok (.iastore, 1) := by decide +kernel
theorem dX9_thinks_20 : decode cX9_thinks 20 = .ok (.iinc 1 1, 3) := by decide +kernel
theorem dX9_thinks_23 : decode cX9_thinks 23 = .ok (.goto (-21), 3) := by decide +kernel
theorem dX9_thinks_26 : decode cX9_thinks 26 = .ok (.return_, 1) := by decide +kernel
theorem dX9_putsBack_0 : decode cX9_putsBack 0 = .ok (.iconst 0, 1) := by decide +kernel
theorem dX9_putsBack_1 : decode cX9_putsBack 1 = .ok (.istore_n 1, 1) := by decide +kernel
theorem dX9_putsBack_2 : decode cX9_putsBack 2 = .ok (.iload_n 1, 1) := by decide +kernel
theorem dX9_putsBack_3 : decode cX9_putsBack 3 = .ok (.bipush 61, 2) := by decide +kernel
theorem dX9_putsBack_5 : decode cX9_putsBack 5 = .ok (.if_icmp .ge 21, 3) := by decide +kernel
theorem dX9_putsBack_8 : decode cX9_putsBack 8 = .ok (.aload_n 0, 1) := by decide +kernel
theorem dX9_putsBack_9 : decode cX9_putsBack 9 = .ok (.getfield 9, 3) := by decide +kernel
theorem dX9_putsBack_12 : decode cX9_putsBack 12 = .ok (.iload_n 1, 1) := by decide +kernel
theorem dX9_putsBack_13 : decode cX9_putsBack 13 = .ok (.aload_n 0, 1) := by decide +kernel
theorem dX9_putsBack_14 : decode cX9_putsBack 14 = .ok (.getfield 19, 3) := by decide +kernel
theorem dX9_putsBack_17 : decode cX9_putsBack 17 = .ok (.iload_n 1, 1) := by decide +kernel
theorem dX9_putsBack_18 : decode cX9_putsBack 18 = .ok (.iaload, 1) := by decide +kernel
theorem dX9_putsBack_19 : decode cX9_putsBack 19 = .ok (.iastore, 1) := by decide +kernel
theorem dX9_putsBack_20 : decode cX9_putsBack 20 = .ok (.iinc 1 1, 3) := by decide +kernel
theorem dX9_putsBack_23 : decode cX9_putsBack 23 = .ok (.goto (-21), 3) := by decide +kernel
theorem dX9_putsBack_26 : decode cX9_putsBack 26 = .ok (.return_, 1) := by decide +kernel
theorem dX9_behind_0 : decode cX9_behind 0 = .ok (.iload_n 1, 1) := by decide +kernel
theorem dX9_behind_1 : decode cX9_behind 1 = .ok (.iconst 0, 1) := by decide +kernel
theorem dX9_behind_2 : decode cX9_behind 2 = .ok (.bipush 100, 2) := by decide +kernel
theorem dX9_behind_4 : decode cX9_behind 4 = .ok (.invokestatic 75, 3) := by decide +kernel
theorem dX9_behind_7 : decode cX9_behind 7 = .ok (.ifCond .eq 22, 3) := by decide +kernel
theorem dX9_behind_10 : decode cX9_behind 10 = .ok (.iload_n 2, 1) := by decide +kernel
theorem dX9_behind_11 : decode cX9_behind 11 = .ok (.ifCond .lt 18, 3) := by decide +kernel
theorem dX9_behind_14 : decode cX9_behind 14 = .ok (.iload_n 2, 1) := by decide +kernel
theorem dX9_behind_15 : decode cX9_behind 15 = .ok (.iconst 2, 1) := by decide +kernel
theorem dX9_behind_16 : decode cX9_behind 16 = .ok (.if_icmp .le 16, 3) := by decide +kernel
theorem dX9_behind_19 : decode cX9_behind 19 = .ok (.aload_n 0, 1) := by decide +kernel
theorem dX9_behind_20 : decode cX9_behind 20 = .ok (.iload_n 2, 1) := by decide +kernel
theorem dX9_behind_21 : decode cX9_behind 21 = .ok (.iconst 3, 1) := by decide +kernel
theorem dX9_behind_22 : decode cX9_behind 22 = .ok (.isub, 1) := by decide +kernel
theorem dX9_behind_23 : decode cX9_behind 23 = .ok (.invokevirtual 93, 3) := by decide +kernel
theorem dX9_behind_26 : decode cX9_behind 26 = .ok (.ifCond .ne 6, 3) := by decide +kernel
theorem dX9_behind_29 : decode cX9_behind 29 = .ok (.ldc 83, 2) := by decide +kernel
theorem dX9_behind_31 : decode cX9_behind 31 = .ok (.ireturn, 1) := by decide +kernel
theorem dX9_behind_32 : decode cX9_behind 32 = .ok (.aload_n 0, 1) := by decide +kernel
theorem dX9_behind_33 : decode cX9_behind 33 = .ok (.invokevirtual 153, 3) := by decide +kernel
theorem dX9_behind_36 : decode cX9_behind 36 = .ok (.aload_n 0, 1) := by decide +kernel
theorem dX9_behind_37 : decode cX9_behind 37 = .ok (.iload_n 1, 1) := by decide +kernel
theorem dX9_behind_38 : decode cX9_behind 38 = .ok (.invokevirtual 143, 3) := by decide +kernel
theorem dX9_behind_41 : decode cX9_behind 41 = .ok (.iload_n 2, 1) := by decide +kernel
theorem dX9_behind_42 : decode cX9_behind 42 = .ok (.iconst 2, 1) := by decide +kernel
theorem dX9_behind_43 : decode cX9_behind 43 = .ok (.if_icmp .le 14, 3) := by decide +kernel
theorem dX9_behind_46 : decode cX9_behind 46 = .ok (.aload_n 0, 1) := by decide +kernel
theorem dX9_behind_47 : decode cX9_behind 47 = .ok (.iload_n 2, 1) := by decide +kernel
theorem dX9_behind_48 : decode cX9_behind 48 = .ok (.iconst 3, 1) := by decide +kernel
theorem dX9_behind_49 : decode cX9_behind 49 = .ok (.isub, 1) := by decide +kernel
theorem dX9_behind_50 : decode cX9_behind 50 = .ok (.iconst 3, 1) := by decide +kernel
theorem dX9_behind_51 : decode cX9_behind 51 = .ok (.invokevirtual 89, 3) := by decide +kernel
theorem dX9_behind_54 : decode cX9_behind 54 = .ok (.goto 8, 3) := by decide +kernel
theorem dX9_behind_57 : decode cX9_behind 57 = .ok (.aload_n 0, 1) := by decide +kernel
theorem dX9_behind_58 : decode cX9_behind 58 = .ok (.iload_n 2, 1) := by decide +kernel
theorem dX9_behind_59 : decode cX9_behind 59 = .ok (.invokevirtual 156, 3) := by decide +kernel
theorem dX9_behind_62 : decode cX9_behind 62 = .ok (.istore_n 3, 1) := by decide +kernel
theorem dX9_behind_63 : decode cX9_behind 63 = .ok (.aload_n 0, 1) := by decide +kernel
theorem dX9_behind_64 : decode cX9_behind 64 = .ok (.invokevirtual 159, 3) := by decide +kernel
theorem dX9_behind_67 : decode cX9_behind 67 = .ok (.iload_n 3, 1) := by decide +kernel
theorem dX9_behind_68 : decode cX9_behind 68 = .ok (.ireturn, 1) := by decide +kernel
theorem dX9_best_0 : decode cX9_best 0 = .ok (.aload_n 0, 1) := by decide +kernel
theorem dX9_best_1 : decode cX9_best 1 = .ok (.iload_n 1, 1) := by decide +kernel
theorem dX9_best_2 : decode cX9_best 2 = .ok (.invokevirtual 93, 3) := by decide +kernel
theorem dX9_best_5 : decode cX9_best 5 = .ok (.ifCond .eq 22, 3) := by decide +kernel
theorem dX9_best_8 : decode cX9_best 8 = .ok (.iload_n 2, 1) := by decide +kernel
theorem dX9_best_9 : decode cX9_best 9 = .ok (.iconst 1, 1) := by decide +kernel
theorem dX9_best_10 : decode cX9_best 10 = .ok (.bipush 40, 2) := by decide +kernel
theorem dX9_best_12 : decode cX9_best 12 = .ok (.invokestatic 75, 3) := by decide +kernel
theorem dX9_best_15 : decode cX9_best 15 = .ok (.ifCond .eq 12, 3) := by decide +kernel
theorem dX9_best_18 : decode cX9_best 18 = .ok (.iload_n 3, 1) := by decide +kernel
theorem dX9_best_19 : decode cX9_best 19 = .ok (.iconst 0, 1) := by decide +kernel
theorem dX9_best_20 : decode cX9_best 20 = .ok (.iconst 1, 1) := by decide +kernel
theorem dX9_best_21 : decode cX9_best 21 = .ok (.invokestatic 75, 3) := by decide +kernel
theorem dX9_best_24 : decode cX9_best 24 = .ok (.ifCond .ne 6, 3) := by decide +kernel
theorem dX9_best_27 : decode cX9_best 27 = .ok (.ldc 83, 2) := by decide +kernel
theorem dX9_best_29 : decode cX9_best 29 = .ok (.ireturn, 1) := by decide +kernel
theorem dX9_best_30 : decode cX9_best 30 = .ok (.aload_n 0, 1) := by decide +kernel
theorem dX9_best_31 : decode cX9_best 31 = .ok (.invokevirtual 153, 3) := by decide +kernel
theorem dX9_best_34 : decode cX9_best 34 = .ok (.iconst (-1), 1) := by decide +kernel
theorem dX9_best_35 : decode cX9_best 35 = .ok (.istore 4, 2) := by decide +kernel
theorem dX9_best_37 : decode cX9_best 37 = .ok (.iconst 0, 1) := by decide +kernel
theorem dX9_best_38 : decode cX9_best 38 = .ok (.istore 5, 2) := by decide +kernel
theorem dX9_best_40 : decode cX9_best 40 = .ok (.iconst 0, 1) := by decide +kernel
theorem dX9_best_41 : decode cX9_best 41 = .ok (.istore 6, 2) := by decide +kernel
theorem dX9_best_43 : decode cX9_best 43 = .ok (.iload 6, 2) := by decide +kernel
theorem dX9_best_45 : decode cX9_best 45 = .ok (.bipush 8, 2) := by decide +kernel
theorem dX9_best_47 : decode cX9_best 47 = .ok (.if_icmp .gt 54, 3) := by decide +kernel
theorem dX9_best_50 : decode cX9_best 50 = .ok (.aload_n 0, 1) := by decide +kernel
theorem dX9_best_51 : decode cX9_best 51 = .ok (.iload_n 1, 1) := by decide +kernel
theorem dX9_best_52 : decode cX9_best 52 = .ok (.iconst 1, 1) := by decide +kernel
theorem dX9_best_53 : decode cX9_best 53 = .ok (.iload 6, 2) := by decide +kernel
theorem dX9_best_55 : decode cX9_best 55 = .ok (.invokevirtual 79, 3) := by decide +kernel
theorem dX9_best_58 : decode cX9_best 58 = .ok (.aload_n 0, 1) := by decide +kernel
theorem dX9_best_59 : decode cX9_best 59 = .ok (.iload_n 2, 1) := by decide +kernel
theorem dX9_best_60 : decode cX9_best 60 = .ok (.invokevirtual 143, 3) := by decide +kernel
theorem dX9_best_63 : decode cX9_best 63 = .ok (.aload_n 0, 1) := by decide +kernel
theorem dX9_best_64 : decode cX9_best 64 = .ok (.iload_n 1, 1) := by decide +kernel
theorem dX9_best_65 : decode cX9_best 65 = .ok (.iconst 3, 1) := by decide +kernel
theorem dX9_best_66 : decode cX9_best 66 = .ok (.invokevirtual 89, 3) := by decide +kernel
theorem dX9_best_69 : decode cX9_best 69 = .ok (.istore 7, 2) := by decide +kernel
theorem dX9_best_71 : decode cX9_best 71 = .ok (.aload_n 0, 1) := by decide +kernel
theorem dX9_best_72 : decode cX9_best 72 = .ok (.invokevirtual 159, 3) := by decide +kernel
theorem dX9_best_75 : decode cX9_best 75 = .ok (.iload 4, 2) := by decide +kernel
theorem dX9_best_77 : decode cX9_best 77 = .ok (.ifCond .lt 10, 3) := by decide +kernel
theorem dX9_best_80 : decode cX9_best 80 = .ok (.iload 7, 2) := by decide +kernel
theorem dX9_best_82 : decode cX9_best 82 = .ok (.iload 5, 2) := by decide +kernel
theorem dX9_best_84 : decode cX9_best 84 = .ok (.if_icmp .le 11, 3) := by decide +kernel
theorem dX9_best_87 : decode cX9_best 87 = .ok (.iload 6, 2) := by decide +kernel
theorem dX9_best_89 : decode cX9_best 89 = .ok (.istore 4, 2) := by decide +kernel
theorem dX9_best_91 : decode cX9_best 91 = .ok (.iload 7, 2) := by decide +kernel
theorem dX9_best_93 : decode cX9_best 93 = .ok (.istore 5, 2) := by decide +kernel
theorem dX9_best_95 : decode cX9_best 95 = .ok (.iinc 6 1, 3) := by decide +kernel
theorem dX9_best_98 : decode cX9_best 98 = .ok (.goto (-55), 3) := by decide +kernel
theorem dX9_best_101 : decode cX9_best 101 = .ok (.iload_n 3, 1) := by decide +kernel
theorem dX9_best_102 : decode cX9_best 102 = .ok (.ifCond .ne 8, 3) := by decide +kernel
theorem dX9_best_105 : decode cX9_best 105 = .ok (.iload 4, 2) := by decide +kernel
theorem dX9_best_107 : decode cX9_best 107 = .ok (.goto 5, 3) := by decide +kernel
theorem dX9_best_110 : decode cX9_best 110 = .ok (.iload 5, 2) := by decide +kernel
theorem dX9_best_112 : decode cX9_best 112 = .ok (.ireturn, 1) := by decide +kernel
theorem dX9_stand_0 : decode cX9_stand 0 = .ok (.iload_n 1, 1) := by decide +kernel
theorem dX9_stand_1 : decode cX9_stand 1 = .ok (.istore_n 3, 1) := by decide +kernel
theorem dX9_stand_2 : decode cX9_stand 2 = .ok (.iload_n 2, 1) := by decide +kernel
theorem dX9_stand_3 : decode cX9_stand 3 = .ok (.iconst 1, 1) := by decide +kernel
theorem dX9_stand_4 : decode cX9_stand 4 = .ok (.isub, 1) := by decide +kernel
theorem dX9_stand_5 : decode cX9_stand 5 = .ok (.istore 4, 2) := by decide +kernel
theorem dX9_stand_7 : decode cX9_stand 7 = .ok (.iload 4, 2) := by decide +kernel
theorem dX9_stand_9 : decode cX9_stand 9 = .ok (.ifCond .lt 25, 3) := by decide +kernel
theorem dX9_stand_12 : decode cX9_stand 12 = .ok (.aload_n 0, 1) := by decide +kernel
theorem dX9_stand_13 : decode cX9_stand 13 = .ok (.iload 4, 2) := by decide +kernel
theorem dX9_stand_15 : decode cX9_stand 15 = .ok (.iconst 1, 1) := by decide +kernel
theorem dX9_stand_16 : decode cX9_stand 16 = .ok (.iload_n 3, 1) := by decide +kernel
theorem dX9_stand_17 : decode cX9_stand 17 = .ok (.bipush 8, 2) := by decide +kernel
theorem dX9_stand_19 : decode cX9_stand 19 = .ok (.irem, 1) := by decide +kernel
theorem dX9_stand_20 : decode cX9_stand 20 = .ok (.invokevirtual 79, 3) := by decide +kernel
theorem dX9_stand_23 : decode cX9_stand 23 = .ok (.iload_n 3, 1) := by decide +kernel
theorem dX9_stand_24 : decode cX9_stand 24 = .ok (.bipush 8, 2) := by decide +kernel
theorem dX9_stand_26 : decode cX9_stand 26 = .ok (.idiv, 1) := by decide +kernel
theorem dX9_stand_27 : decode cX9_stand 27 = .ok (.istore_n 3, 1) := by decide +kernel
theorem dX9_stand_28 : decode cX9_stand 28 = .ok (.iinc 4 (-1), 3) := by decide +kernel
theorem dX9_stand_31 : decode cX9_stand 31 = .ok (.goto (-24), 3) := by decide +kernel
theorem dX9_stand_34 : decode cX9_stand 34 = .ok (.return_, 1) := by decide +kernel
theorem dX9_letting_0 : decode cX9_letting 0 = .ok (.iload_n 1, 1) := by decide +kernel
theorem dX9_letting_1 : decode cX9_letting 1 = .ok (.iconst 1, 1) := by decide +kernel
theorem dX9_letting_2 : decode cX9_letting 2 = .ok (.iconst 4, 1) := by decide +kernel
theorem dX9_letting_3 : decode cX9_letting 3 = .ok (.invokestatic 75, 3) := by decide +kernel
theorem dX9_letting_6 : decode cX9_letting 6 = .ok (.ifCond .eq 12, 3) := by decide +kernel
theorem dX9_letting_9 : decode cX9_letting 9 = .ok (.iload_n 2, 1) := by decide +kernel
theorem dX9_letting_10 : decode cX9_letting 10 = .ok (.iconst 0, 1) := by decide +kernel
theorem dX9_letting_11 : decode cX9_letting 11 = .ok (.iconst 1, 1) := by decide +kernel
theorem dX9_letting_12 : decode cX9_letting 12 = .ok (.invokestatic 75, 3) := by decide +kernel
theorem dX9_letting_15 : decode cX9_letting 15 = .ok (.ifCond .ne 6, 3) := by decide +kernel
theorem dX9_letting_18 : decode cX9_letting 18 = .ok (.ldc 83, 2) := by decide +kernel
theorem dX9_letting_20 : decode cX9_letting 20 = .ok (.ireturn, 1) := by decide +kernel
theorem dX9_letting_21 : decode cX9_letting 21 = .ok (.aload_n 0, 1) := by decide +kernel
theorem dX9_letting_22 : decode cX9_letting 22 = .ok (.invokevirtual 153, 3) := by decide +kernel
theorem dX9_letting_25 : decode cX9_letting 25 = .ok (.aload_n 0, 1) := by decide +kernel
theorem dX9_letting_26 : decode cX9_letting 26 = .ok (.getfield 9, 3) := by decide +kernel
theorem dX9_letting_29 : decode cX9_letting 29 = .ok (.iconst 1, 1) := by decide +kernel
theorem dX9_letting_30 : decode cX9_letting 30 = .ok (.iaload, 1) := by decide +kernel
theorem dX9_letting_31 : decode cX9_letting 31 = .ok (.iconst 3, 1) := by decide +kernel
theorem dX9_letting_32 : decode cX9_letting 32 = .ok (.if_icmp .le 7, 3) := by decide +kernel
theorem dX9_letting_35 : decode cX9_letting 35 = .ok (.iconst 3, 1) := by decide +kernel
theorem dX9_letting_36 : decode cX9_letting 36 = .ok (.goto 9, 3) := by decide +kernel
theorem dX9_letting_39 : decode cX9_letting 39 = .ok (.aload_n 0, 1) := by decide +kernel
theorem dX9_letting_40 : decode cX9_letting 40 = .ok (.getfield 9, 3) := by decide +kernel
theorem dX9_letting_43 : decode cX9_letting 43 = .ok (.iconst 1, 1) := by decide +kernel
theorem dX9_letting_44 : decode cX9_letting 44 = .ok (.iaload, 1) := by decide +kernel
theorem dX9_letting_45 : decode cX9_letting 45 = .ok (.istore_n 3, 1) := by decide +kernel
theorem dX9_letting_46 : decode cX9_letting 46 = .ok (.iload_n 3, 1) := by decide +kernel
theorem dX9_letting_47 : decode cX9_letting 47 = .ok (.ifCond .ne 7, 3) := by decide +kernel
theorem dX9_letting_50 : decode cX9_letting 50 = .ok (.iconst 0, 1) := by decide +kernel
theorem dX9_letting_51 : decode cX9_letting 51 = .ok (.goto 26, 3) := by decide +kernel
theorem dX9_letting_54 : decode cX9_letting 54 = .ok (.iload_n 3, 1) := by decide +kernel
theorem dX9_letting_55 : decode cX9_letting 55 = .ok (.iconst 1, 1) := by decide +kernel
theorem dX9_letting_56 : decode cX9_letting 56 = .ok (.if_icmp .ne 8, 3) := by decide +kernel
theorem dX9_letting_59 : decode cX9_letting 59 = .ok (.bipush 8, 2) := by decide +kernel
theorem dX9_letting_61 : decode cX9_letting 61 = .ok (.goto 16, 3) := by decide +kernel
theorem dX9_letting_64 : decode cX9_letting 64 = .ok (.iload_n 3, 1) := by decide +kernel
theorem dX9_letting_65 : decode cX9_letting 65 = .ok (.iconst 2, 1) := by decide +kernel
theorem dX9_letting_66 : decode cX9_letting 66 = .ok (.if_icmp .ne 8, 3) := by decide +kernel
theorem dX9_letting_69 : decode cX9_letting 69 = .ok (.bipush 64, 2) := by decide +kernel
theorem dX9_letting_71 : decode cX9_letting 71 = .ok (.goto 6, 3) := by decide +kernel
theorem dX9_letting_74 : decode cX9_letting 74 = .ok (.sipush 512, 3) := by decide +kernel
theorem dX9_letting_77 : decode cX9_letting 77 = .ok (.istore 4, 2) := by decide +kernel
theorem dX9_letting_79 : decode cX9_letting 79 = .ok (.iconst (-1), 1) := by decide +kernel
theorem dX9_letting_80 : decode cX9_letting 80 = .ok (.istore 5, 2) := by decide +kernel
theorem dX9_letting_82 : decode cX9_letting 82 = .ok (.iconst 0, 1) := by decide +kernel
theorem dX9_letting_83 : decode cX9_letting 83 = .ok (.istore 6, 2) := by decide +kernel
theorem dX9_letting_85 : decode cX9_letting 85 = .ok (.iconst 0, 1) := by decide +kernel
theorem dX9_letting_86 : decode cX9_letting 86 = .ok (.istore 7, 2) := by decide +kernel
theorem dX9_letting_88 : decode cX9_letting 88 = .ok (.iload 7, 2) := by decide +kernel
theorem dX9_letting_90 : decode cX9_letting 90 = .ok (.iload 4, 2) := by decide +kernel
theorem dX9_letting_92 : decode cX9_letting 92 = .ok (.if_icmp .ge 59, 3) := by decide +kernel
theorem dX9_letting_95 : decode cX9_letting 95 = .ok (.aload_n 0, 1) := by decide +kernel
theorem dX9_letting_96 : decode cX9_letting 96 = .ok (.iload 7, 2) := by decide +kernel
theorem dX9_letting_98 : decode cX9_letting 98 = .ok (.iload_n 3, 1) := by decide +kernel
theorem dX9_letting_99 : decode cX9_letting 99 = .ok (.invokevirtual 162, 3) := by decide +kernel
theorem dX9_letting_102 : decode cX9_letting 102 = .ok (.aload_n 0, 1) := by decide +kernel
theorem dX9_letting_103 : decode cX9_letting 103 = .ok (.invokevirtual 147, 3) := by decide +kernel
theorem dX9_letting_106 : decode cX9_letting 106 = .ok (.ifCond .ne 35, 3) := by decide +kernel
theorem dX9_letting_109 : decode cX9_letting 109 = .ok (.aload_n 0, 1) := by decide +kernel
theorem dX9_letting_110 : decode cX9_letting 110 = .ok (.iload_n 1, 1) := by decide +kernel
theorem dX9_letting_111 : decode cX9_letting 111 = .ok (.invokevirtual 143, 3) := by decide +kernel
theorem dX9_letting_114 : decode cX9_letting 114 = .ok (.aload_n 0, 1) := by decide +kernel
theorem dX9_letting_115 : decode cX9_letting 115 = .ok (.iconst 3, 1) := by decide +kernel
theorem dX9_letting_116 : decode cX9_letting 116 = .ok (.invokevirtual 140, 3) := by decide +kernel
theorem dX9_letting_119 : decode cX9_letting 119 = .ok (.istore 8, 2) := by decide +kernel
theorem dX9_letting_121 : decode cX9_letting 121 = .ok (.iload 5, 2) := by decide +kernel
theorem dX9_letting_123 : decode cX9_letting 123 = .ok (.ifCond .lt 10, 3) := by decide +kernel
theorem dX9_letting_126 : decode cX9_letting 126 = .ok (.iload 8, 2) := by decide +kernel
theorem dX9_letting_128 : decode cX9_letting 128 = .ok (.iload 6, 2) := by decide +kernel
theorem dX9_letting_130 : decode cX9_letting 130 = .ok (.if_icmp .le 11, 3) := by decide +kernel
theorem dX9_letting_133 : decode cX9_letting 133 = .ok (.iload 7, 2) := by decide +kernel
theorem dX9_letting_135 : decode cX9_letting 135 = .ok (.istore 5, 2) := by decide +kernel
theorem dX9_letting_137 : decode cX9_letting 137 = .ok (.iload 8, 2) := by decide +kernel
theorem dX9_letting_139 : decode cX9_letting 139 = .ok (.istore 6, 2) := by decide +kernel
theorem dX9_letting_141 : decode cX9_letting 141 = .ok (.aload_n 0, 1) := by decide +kernel
theorem dX9_letting_142 : decode cX9_letting 142 = .ok (.invokevirtual 159, 3) := by decide +kernel
theorem dX9_letting_145 : decode cX9_letting 145 = .ok (.iinc 7 1, 3) := by decide +kernel
theorem dX9_letting_148 : decode cX9_letting 148 = .ok (.goto (-60), 3) := by decide +kernel
theorem dX9_letting_151 : decode cX9_letting 151 = .ok (.iload 5, 2) := by decide +kernel
theorem dX9_letting_153 : decode cX9_letting 153 = .ok (.ifCond .ge 8, 3) := by decide +kernel
