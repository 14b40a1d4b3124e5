theorem dX7_joined_125 : decode cX7_joined 125 = .ok (.ireturn, 1) := by decide +kernel
theorem dX7_joined_126 : decode cX7_joined 126 = .ok (.iload_n 1, 1) := by decide +kernel
theorem dX7_joined_127 : decode cX7_joined 127 = .ok (.iload_n 2, 1) := by decide +kernel
theorem dX7_joined_128 : decode cX7_joined 128 = .ok (.if_icmp .le 7, 3) := by decide +kernel
theorem dX7_joined_131 : decode cX7_joined 131 = .ok (.iconst 1, 1) := by decide +kernel
theorem dX7_joined_132 : decode cX7_joined 132 = .ok (.goto 4, 3) := by decide +kernel
theorem dX7_joined_135 : decode cX7_joined 135 = .ok (.iconst 0, 1) := by decide +kernel
theorem dX7_joined_136 : decode cX7_joined 136 = .ok (.ireturn, 1) := by decide +kernel
theorem dX7_joined_137 : decode cX7_joined 137 = .ok (.iload_n 1, 1) := by decide +kernel
theorem dX7_joined_138 : decode cX7_joined 138 = .ok (.iload_n 2, 1) := by decide +kernel
theorem dX7_joined_139 : decode cX7_joined 139 = .ok (.iadd, 1) := by decide +kernel
theorem dX7_joined_140 : decode cX7_joined 140 = .ok (.ireturn, 1) := by decide +kernel
theorem dX7_joined_141 : decode cX7_joined 141 = .ok (.iload_n 1, 1) := by decide +kernel
theorem dX7_joined_142 : decode cX7_joined 142 = .ok (.iload_n 2, 1) := by decide +kernel
theorem dX7_joined_143 : decode cX7_joined 143 = .ok (.isub, 1) := by decide +kernel
theorem dX7_joined_144 : decode cX7_joined 144 = .ok (.ireturn, 1) := by decide +kernel
theorem dX7_joined_145 : decode cX7_joined 145 = .ok (.iload_n 1, 1) := by decide +kernel
theorem dX7_joined_146 : decode cX7_joined 146 = .ok (.iload_n 2, 1) := by decide +kernel
theorem dX7_joined_147 : decode cX7_joined 147 = .ok (.imul, 1) := by decide +kernel
theorem dX7_joined_148 : decode cX7_joined 148 = .ok (.ireturn, 1) := by decide +kernel
theorem dX7_joined_149 : decode cX7_joined 149 = .ok (.iload_n 2, 1) := by decide +kernel
theorem dX7_joined_150 : decode cX7_joined 150 = .ok (.ifCond .ne 7, 3) := by decide +kernel
theorem dX7_joined_153 : decode cX7_joined 153 = .ok (.iconst 0, 1) := by decide +kernel
theorem dX7_joined_154 : decode cX7_joined 154 = .ok (.goto 6, 3) := by decide +kernel
theorem dX7_joined_157 : decode cX7_joined 157 = .ok (.iload_n 1, 1) := by decide +kernel
theorem dX7_joined_158 : decode cX7_joined 158 = .ok (.iload_n 2, 1) := by decide +kernel
theorem dX7_joined_159 : decode cX7_joined 159 = .ok (.idiv, 1) := by decide +kernel
theorem dX7_joined_160 : decode cX7_joined 160 = .ok (.ireturn, 1) := by decide +kernel
theorem dX8_init_0 : decode cX8_init 0 = .ok (.aload_n 0, 1) := by decide +kernel
theorem dX8_init_1 : decode cX8_init 1 = .ok (.invokespecial 1, 3) := by decide +kernel
theorem dX8_init_4 : decode cX8_init 4 = .ok (.aload_n 0, 1) := by decide +kernel
theorem dX8_init_5 : decode cX8_init 5 = .ok (.new 7, 3) := by decide +kernel
theorem dX8_init_8 : decode cX8_init 8 = .ok (.dup, 1) := by decide +kernel
theorem dX8_init_9 : decode cX8_init 9 = .ok (.invokespecial 9, 3) := by decide +kernel
theorem dX8_init_12 : decode cX8_init 12 = .ok (.putfield 10, 3) := by decide +kernel
theorem dX8_init_15 : decode cX8_init 15 = .ok (.aload_n 0, 1) := by decide +kernel
theorem dX8_init_16 : decode cX8_init 16 = .ok (.new 7, 3) := by decide +kernel
theorem dX8_init_19 : decode cX8_init 19 = .ok (.dup, 1) := by decide +kernel
theorem dX8_init_20 : decode cX8_init 20 = .ok (.invokespecial 9, 3) := by decide +kernel
theorem dX8_init_23 : decode cX8_init 23 = .ok (.putfield 16, 3) := by decide +kernel
theorem dX8_init_26 : decode cX8_init 26 = .ok (.aload_n 0, 1) := by decide +kernel
theorem dX8_init_27 : decode cX8_init 27 = .ok (.new 7, 3) := by decide +kernel
theorem dX8_init_30 : decode cX8_init 30 = .ok (.dup, 1) := by decide +kernel
theorem dX8_init_31 : decode cX8_init 31 = .ok (.invokespecial 9, 3) := by decide +kernel
theorem dX8_init_34 : decode cX8_init 34 = .ok (.putfield 19, 3) := by decide +kernel
theorem dX8_init_37 : decode cX8_init 37 = .ok (.aload_n 0, 1) := by decide +kernel
theorem dX8_init_38 : decode cX8_init 38 = .ok (.iconst 0, 1) := by decide +kernel
theorem dX8_init_39 : decode cX8_init 39 = .ok (.putfield 22, 3) := by decide +kernel
theorem dX8_init_42 : decode cX8_init 42 = .ok (.aload_n 0, 1) := by decide +kernel
theorem dX8_init_43 : decode cX8_init 43 = .ok (.new 26, 3) := by decide +kernel
theorem dX8_init_46 : decode cX8_init 46 = .ok (.dup, 1) := by decide +kernel
theorem dX8_init_47 : decode cX8_init 47 = .ok (.invokespecial 28, 3) := by decide +kernel
theorem dX8_init_50 : decode cX8_init 50 = .ok (.putfield 29, 3) := by decide +kernel
theorem dX8_init_53 : decode cX8_init 53 = .ok (.aload_n 0, 1) := by decide +kernel
theorem dX8_init_54 : decode cX8_init 54 = .ok (.aload_n 0, 1) := by decide +kernel
theorem dX8_init_55 : decode cX8_init 55 = .ok (.getfield 29, 3) := by decide +kernel
theorem dX8_init_58 : decode cX8_init 58 = .ok (.getfield 33, 3) := by decide +kernel
theorem dX8_init_61 : decode cX8_init 61 = .ok (.putfield 37, 3) := by decide +kernel
theorem dX8_init_64 : decode cX8_init 64 = .ok (.aload_n 0, 1) := by decide +kernel
theorem dX8_init_65 : decode cX8_init 65 = .ok (.bipush 14, 2) := by decide +kernel
theorem dX8_init_67 : decode cX8_init 67 = .ok (.anewarray 38, 3) := by decide +kernel
theorem dX8_init_70 : decode cX8_init 70 = .ok (.putfield 40, 3) := by decide +kernel
theorem dX8_init_73 : decode cX8_init 73 = .ok (.aload_n 0, 1) := by decide +kernel
theorem dX8_init_74 : decode cX8_init 74 = .ok (.new 44, 3) := by decide +kernel
theorem dX8_init_77 : decode cX8_init 77 = .ok (.dup, 1) := by decide +kernel
theorem dX8_init_78 : decode cX8_init 78 = .ok (.invokespecial 46, 3) := by decide +kernel
theorem dX8_init_81 : decode cX8_init 81 = .ok (.putfield 47, 3) := by decide +kernel
theorem dX8_init_84 : decode cX8_init 84 = .ok (.aload_n 0, 1) := by decide +kernel
theorem dX8_init_85 : decode cX8_init 85 = .ok (.iconst 4, 1) := by decide +kernel
theorem dX8_init_86 : decode cX8_init 86 = .ok (.anewarray 51, 3) := by decide +kernel
theorem dX8_init_89 : decode cX8_init 89 = .ok (.putfield 53, 3) := by decide +kernel
theorem dX8_init_92 : decode cX8_init 92 = .ok (.aload_n 0, 1) := by decide +kernel
theorem dX8_init_93 : decode cX8_init 93 = .ok (.iconst 5, 1) := by decide +kernel
theorem dX8_init_94 : decode cX8_init 94 = .ok (.anewarray 57, 3) := by decide +kernel
theorem dX8_init_97 : decode cX8_init 97 = .ok (.putfield 59, 3) := by decide +kernel
theorem dX8_init_100 : decode cX8_init 100 = .ok (.aload_n 0, 1) := by decide +kernel
theorem dX8_init_101 : decode cX8_init 101 = .ok (.bipush 60, 2) := by decide +kernel
theorem dX8_init_103 : decode cX8_init 103 = .ok (.newarray .int, 2) := by decide +kernel
theorem dX8_init_105 : decode cX8_init 105 = .ok (.putfield 63, 3) := by decide +kernel
theorem dX8_init_108 : decode cX8_init 108 = .ok (.aload_n 0, 1) := by decide +kernel
theorem dX8_init_109 : decode cX8_init 109 = .ok (.iconst 0, 1) := by decide +kernel
theorem dX8_init_110 : decode cX8_init 110 = .ok (.putfield 67, 3) := by decide +kernel
theorem dX8_init_113 : decode cX8_init 113 = .ok (.iconst 0, 1) := by decide +kernel
theorem dX8_init_114 : decode cX8_init 114 = .ok (.istore_n 1, 1) := by decide +kernel
theorem dX8_init_115 : decode cX8_init 115 = .ok (.iload_n 1, 1) := by decide +kernel
theorem dX8_init_116 : decode cX8_init 116 = .ok (.iconst 4, 1) := by decide +kernel
theorem dX8_init_117 : decode cX8_init 117 = .ok (.if_icmp .ge 22, 3) := by decide +kernel
theorem dX8_init_120 : decode cX8_init 120 = .ok (.aload_n 0, 1) := by decide +kernel
theorem dX8_init_121 : decode cX8_init 121 = .ok (.getfield 53, 3) := by decide +kernel
theorem dX8_init_124 : decode cX8_init 124 = .ok (.iload_n 1, 1) := by decide +kernel
theorem dX8_init_125 : decode cX8_init 125 = .ok (.new 51, 3) := by decide +kernel
theorem dX8_init_128 : decode cX8_init 128 = .ok (.dup, 1) := by decide +kernel
theorem dX8_init_129 : decode cX8_init 129 = .ok (.invokespecial 71, 3) := by decide +kernel
theorem dX8_init_132 : decode cX8_init 132 = .ok (.aastore, 1) := by decide +kernel
theorem dX8_init_133 : decode cX8_init 133 = .ok (.iinc 1 1, 3) := by decide +kernel
theorem dX8_init_136 : decode cX8_init 136 = .ok (.goto (-21), 3) := by decide +kernel
theorem dX8_init_139 : decode cX8_init 139 = .ok (.iconst 0, 1) := by decide +kernel
theorem dX8_init_140 : decode cX8_init 140 = .ok (.istore_n 1, 1) := by decide +kernel
theorem dX8_init_141 : decode cX8_init 141 = .ok (.iload_n 1, 1) := by decide +kernel
theorem dX8_init_142 : decode cX8_init 142 = .ok (.iconst 5, 1) := by decide +kernel
theorem dX8_init_143 : decode cX8_init 143 = .ok (.if_icmp .ge 22, 3) := by decide +kernel
theorem dX8_init_146 : decode cX8_init 146 = .ok (.aload_n 0, 1) := by decide +kernel
theorem dX8_init_147 : decode cX8_init 147 = .ok (.getfield 59, 3) := by decide +kernel
theorem dX8_init_150 : decode cX8_init 150 = .ok (.iload_n 1, 1) := by decide +kernel
theorem dX8_init_151 : decode cX8_init 151 = .ok (.new 57, 3) := by decide +kernel
theorem dX8_init_154 : decode cX8_init 154 = .ok (.dup, 1) := by decide +kernel
theorem dX8_init_155 : decode cX8_init 155 = .ok (.invokespecial 72, 3) := by decide +kernel
theorem dX8_init_158 : decode cX8_init 158 = .ok (.aastore, 1) := by decide +kernel
theorem dX8_init_159 : decode cX8_init 159 = .ok (.iinc 1 1, 3) := by decide +kernel
theorem dX8_init_162 : decode cX8_init 162 = .ok (.goto (-21), 3) := by decide +kernel
theorem dX8_init_165 : decode cX8_init 165 = .ok (.return_, 1) := by decide +kernel
theorem dX8_beggar_0 : decode cX8_beggar 0 = .ok (.iload_n 1, 1) := by decide +kernel
theorem dX8_beggar_1 : decode cX8_beggar 1 = .ok (.invokestatic 73, 3) := by decide +kernel
theorem dX8_beggar_4 : decode cX8_beggar 4 = .ok (.ifCond .eq 23, 3) := by decide +kernel
theorem dX8_beggar_7 : decode cX8_beggar 7 = .ok (.iload_n 2, 1) := by decide +kernel
theorem dX8_beggar_8 : decode cX8_beggar 8 = .ok (.iconst 0, 1) := by decide +kernel
theorem dX8_beggar_9 : decode cX8_beggar 9 = .ok (.bipush 8, 2) := by decide +kernel
theorem dX8_beggar_11 : decode cX8_beggar 11 = .ok (.invokestatic 77, 3) := by decide +kernel
theorem dX8_beggar_14 : decode cX8_beggar 14 = .ok (.ifCond .eq 13, 3) := by decide +kernel
theorem dX8_beggar_17 : decode cX8_beggar 17 = .ok (.iload_n 3, 1) := by decide +kernel
theorem dX8_beggar_18 : decode cX8_beggar 18 = .ok (.iconst 0, 1) := by decide +kernel
theorem dX8_beggar_19 : decode cX8_beggar 19 = .ok (.bipush 20, 2) := by decide +kernel
theorem dX8_beggar_21 : decode cX8_beggar 21 = .ok (.invokestatic 77, 3) := by decide +kernel
theorem dX8_beggar_24 : decode cX8_beggar 24 = .ok (.ifCond .ne 6, 3) := by decide +kernel
theorem dX8_beggar_27 : decode cX8_beggar 27 = .ok (.ldc 81, 2) := by decide +kernel
theorem dX8_beggar_29 : decode cX8_beggar 29 = .ok (.ireturn, 1) := by decide +kernel
theorem dX8_beggar_30 : decode cX8_beggar 30 = .ok (.aload_n 0, 1) := by decide +kernel
theorem dX8_beggar_31 : decode cX8_beggar 31 = .ok (.getfield 10, 3) := by decide +kernel
theorem dX8_beggar_34 : decode cX8_beggar 34 = .ok (.getfield 82, 3) := by decide +kernel
theorem dX8_beggar_37 : decode cX8_beggar 37 = .ok (.bipush 8, 2) := by decide +kernel
theorem dX8_beggar_39 : decode cX8_beggar 39 = .ok (.if_icmp .lt 6, 3) := by decide +kernel
theorem dX8_beggar_42 : decode cX8_beggar 42 = .ok (.ldc 85, 2) := by decide +kernel
theorem dX8_beggar_44 : decode cX8_beggar 44 = .ok (.ireturn, 1) := by decide +kernel
theorem dX8_beggar_45 : decode cX8_beggar 45 = .ok (.aload_n 0, 1) := by decide +kernel
theorem dX8_beggar_46 : decode cX8_beggar 46 = .ok (.getfield 10, 3) := by decide +kernel
theorem dX8_beggar_49 : decode cX8_beggar 49 = .ok (.iload_n 1, 1) := by decide +kernel
theorem dX8_beggar_50 : decode cX8_beggar 50 = .ok (.iload_n 2, 1) := by decide +kernel
theorem dX8_beggar_51 : decode cX8_beggar 51 = .ok (.iload_n 3, 1) := by decide +kernel
theorem dX8_beggar_52 : decode cX8_beggar 52 = .ok (.invokevirtual 86, 3) := by decide +kernel
theorem dX8_beggar_55 : decode cX8_beggar 55 = .ok (.ireturn, 1) := by decide +kernel
theorem dX8_told_0 : decode cX8_told 0 = .ok (.aload_n 0, 1) := by decide +kernel
theorem dX8_told_1 : decode cX8_told 1 = .ok (.iload_n 1, 1) := by decide +kernel
theorem dX8_told_2 : decode cX8_told 2 = .ok (.invokevirtual 90, 3) := by decide +kernel
theorem dX8_told_5 : decode cX8_told 5 = .ok (.ifCond .ne 6, 3) := by decide +kernel
theorem dX8_told_8 : decode cX8_told 8 = .ok (.ldc 81, 2) := by decide +kernel
theorem dX8_told_10 : decode cX8_told 10 = .ok (.ireturn, 1) := by decide +kernel
theorem dX8_told_11 : decode cX8_told 11 = .ok (.iload_n 2, 1) := by decide +kernel
theorem dX8_told_12 : decode cX8_told 12 = .ok (.tableswitch 133 0 6 #[44, 54, 64, 74, 84, 94, 111], 44) := by decide +kernel
theorem dX8_told_56 : decode cX8_told 56 = .ok (.aload_n 0, 1) := by decide +kernel
theorem dX8_told_57 : decode cX8_told 57 = .ok (.getfield 10, 3) := by decide +kernel
theorem dX8_told_60 : decode cX8_told 60 = .ok (.getfield 93, 3) := by decide +kernel
theorem dX8_told_63 : decode cX8_told 63 = .ok (.iload_n 1, 1) := by decide +kernel
theorem dX8_told_64 : decode cX8_told 64 = .ok (.iaload, 1) := by decide +kernel
theorem dX8_told_65 : decode cX8_told 65 = .ok (.ireturn, 1) := by decide +kernel
theorem dX8_told_66 : decode cX8_told 66 = .ok (.aload_n 0, 1) := by decide +kernel
theorem dX8_told_67 : decode cX8_told 67 = .ok (.getfield 10, 3) := by decide +kernel
theorem dX8_told_70 : decode cX8_told 70 = .ok (.getfield 96, 3) := by decide +kernel
theorem dX8_told_73 : decode cX8_told 73 = .ok (.iload_n 1, 1) := by decide +kernel
theorem dX8_told_74 : decode cX8_told 74 = .ok (.iaload, 1) := by decide +kernel
theorem dX8_told_75 : decode cX8_told 75 = .ok (.ireturn, 1) := by decide +kernel
theorem dX8_told_76 : decode cX8_told 76 = .ok (.aload_n 0, 1) := by decide +kernel
theorem dX8_told_77 : decode cX8_told 77 = .ok (.getfield 10, 3) := by decide +kernel
theorem dX8_told_80 : decode cX8_told 80 = .ok (.getfield 99, 3) := by decide +kernel
theorem dX8_told_83 : decode cX8_told 83 = .ok (.iload_n 1, 1) := by decide +kernel
theorem dX8_told_84 : decode cX8_told 84 = .ok (.iaload, 1) := by decide +kernel
theorem dX8_told_85 : decode cX8_told 85 = .ok (.ireturn, 1) := by decide +kernel
theorem dX8_told_86 : decode cX8_told 86 = .ok (.aload_n 0, 1) := by decide +kernel
theorem dX8_told_87 : decode cX8_told 87 = .ok (.getfield 10, 3) := by decide +kernel
theorem dX8_told_90 : decode cX8_told 90 = .ok (.getfield 102, 3) := by decide +kernel
theorem dX8_told_93 : decode cX8_told 93 = .ok (.iload_n 1, 1) := by decide +kernel
theorem dX8_told_94 : decode cX8_told 94 = .ok (.iaload, 1) := by decide +kernel
theorem dX8_told_95 : decode cX8_told 95 = .ok (.ireturn, 1) := by decide +kernel
theorem dX8_told_96 : decode cX8_told 96 = .ok (.aload_n 0, 1) := by decide +kernel
theorem dX8_told_97 : decode cX8_told 97 = .ok (.getfield 10, 3) := by decide +kernel
theorem dX8_told_100 : decode cX8_told 100 = .ok (.getfield 105, 3) := by decide +kernel
theorem dX8_told_103 : decode cX8_told 103 = .ok (.iload_n 1, 1) := by decide +kernel
theorem dX8_told_104 : decode cX8_told 104 = .ok (.iaload, 1) := by decide +kernel
theorem dX8_told_105 : decode cX8_told 105 = .ok (.ireturn, 1) := by decide +kernel
theorem dX8_told_106 : decode cX8_told 106 = .ok (.aload_n 0, 1) := by decide +kernel
theorem dX8_told_107 : decode cX8_told 107 = .ok (.getfield 10, 3) := by decide +kernel
theorem dX8_told_110 : decode cX8_told 110 = .ok (.iload_n 1, 1) := by decide +kernel
theorem dX8_told_111 : decode cX8_told 111 = .ok (.invokevirtual 108, 3) := by decide +kernel
theorem dX8_told_114 : decode cX8_told 114 = .ok (.ifCond .eq 7, 3) := by decide +kernel
theorem dX8_told_117 : decode cX8_told 117 = .ok (.iconst 1, 1) := by decide +kernel
theorem dX8_told_118 : decode cX8_told 118 = .ok (.goto 4, 3) := by decide +kernel
theorem dX8_told_121 : decode cX8_told 121 = .ok (.iconst 0, 1) := by decide +kernel
theorem dX8_told_122 : decode cX8_told 122 = .ok (.ireturn, 1) := by decide +kernel
theorem dX8_told_123 : decode cX8_told 123 = .ok (.aload_n 0, 1) := by decide +kernel
theorem dX8_told_124 : decode cX8_told 124 = .ok (.getfield 10, 3) := by decide +kernel
theorem dX8_told_127 : decode cX8_told 127 = .ok (.getfield 93, 3) := by decide +kernel
theorem dX8_told_130 : decode cX8_told 130 = .ok (.iload_n 1, 1) := by decide +kernel
theorem dX8_told_131 : decode cX8_told 131 = .ok (.iaload, 1) := by decide +kernel
theorem dX8_told_132 : decode cX8_told 132 = .ok (.aload_n 0, 1) := by decide +kernel
theorem dX8_told_133 : decode cX8_told 133 = .ok (.getfield 10, 3) := by decide +kernel
theorem dX8_told_136 : decode cX8_told 136 = .ok (.getfield 99, 3) := by decide +kernel
theorem dX8_told_139 : decode cX8_told 139 = .ok (.iload_n 1, 1) := by decide +kernel
theorem dX8_told_140 : decode cX8_told 140 = .ok (.iaload, 1) := by decide +kernel
theorem dX8_told_141 : decode cX8_told 141 = .ok (.invokestatic 111, 3) := by decide +kernel
theorem dX8_told_144 : decode cX8_told 144 = .ok (.ireturn, 1) := by decide +kernel
theorem dX8_told_145 : decode cX8_told 145 = .ok (.ldc 81, 2) := by decide +kernel
theorem dX8_told_147 : decode cX8_told 147 = .ok (.ireturn, 1) := by decide +kernel
theorem dX8_given_0 : decode cX8_given 0 = .ok (.aload_n 0, 1) := by decide +kernel
theorem dX8_given_1 : decode cX8_given 1 = .ok (.iload_n 1, 1) := by decide +kernel
theorem dX8_given_2 : decode cX8_given 2 = .ok (.invokevirtual 90, 3) := by decide +kernel
theorem dX8_given_5 : decode cX8_given 5 = .ok (.ifCond .eq 34, 3) := by decide +kernel
theorem dX8_given_8 : decode cX8_given 8 = .ok (.iload_n 2, 1) := by decide +kernel
theorem dX8_given_9 : decode cX8_given 9 = .ok (.iconst 1, 1) := by decide +kernel
theorem dX8_given_10 : decode cX8_given 10 = .ok (.bipush 9, 2) := by decide +kernel
theorem dX8_given_12 : decode cX8_given 12 = .ok (.invokestatic 77, 3) := by decide +kernel
theorem dX8_given_15 : decode cX8_given 15 = .ok (.ifCond .eq 24, 3) := by decide +kernel
theorem dX8_given_18 : decode cX8_given 18 = .ok (.iload_n 3, 1) := by decide +kernel
theorem dX8_given_19 : decode cX8_given 19 = .ok (.iconst 0, 1) := by decide +kernel
theorem dX8_given_20 : decode cX8_given 20 = .ok (.bipush 9, 2) := by decide +kernel
theorem dX8_given_22 : decode cX8_given 22 = .ok (.invokestatic 77, 3) := by decide +kernel
theorem dX8_given_25 : decode cX8_given 25 = .ok (.ifCond .eq 14, 3) := by decide +kernel
theorem dX8_given_28 : decode cX8_given 28 = .ok (.iload 4, 2) := by decide +kernel
theorem dX8_given_30 : decode cX8_given 30 = .ok (.iconst 0, 1) := by decide +kernel
theorem dX8_given_31 : decode cX8_given 31 = .ok (.bipush 9, 2) := by decide +kernel
theorem dX8_given_33 : decode cX8_given 33 = .ok (.invokestatic 77, 3) := by decide +kernel
theorem dX8_given_36 : decode cX8_given 36 = .ok (.ifCond .ne 6, 3) := by decide +kernel
theorem dX8_given_39 : decode cX8_given 39 = .ok (.ldc 81, 2) := by decide +kernel
theorem dX8_given_41 : decode cX8_given 41 = .ok (.ireturn, 1) := by decide +kernel
theorem dX8_given_42 : decode cX8_given 42 = .ok (.aload_n 0, 1) := by decide +kernel
theorem dX8_given_43 : decode cX8_given 43 = .ok (.getfield 47, 3) := by decide +kernel
theorem dX8_given_46 : decode cX8_given 46 = .ok (.aload_n 0, 1) := by decide +kernel
theorem dX8_given_47 : decode cX8_given 47 = .ok (.iconst 0, 1) := by decide +kernel
theorem dX8_given_48 : decode cX8_given 48 = .ok (.aload_n 0, 1) := by decide +kernel
theorem dX8_given_49 : decode cX8_given 49 = .ok (.getfield 10, 3) := by decide +kernel
theorem dX8_given_52 : decode cX8_given 52 = .ok (.getfield 117, 3) := by decide +kernel
theorem dX8_given_55 : decode cX8_given 55 = .ok (.invokevirtual 119, 3) := by decide +kernel
theorem dX8_given_58 : decode cX8_given 58 = .ok (.invokevirtual 123, 3) := by decide +kernel
theorem dX8_given_61 : decode cX8_given 61 = .ok (.aload_n 0, 1) := by decide +kernel
theorem dX8_given_62 : decode cX8_given 62 = .ok (.getfield 10, 3) := by decide +kernel
theorem dX8_given_65 : decode cX8_given 65 = .ok (.iload_n 1, 1) := by decide +kernel
theorem dX8_given_66 : decode cX8_given 66 = .ok (.iload_n 2, 1) := by decide +kernel
theorem dX8_given_67 : decode cX8_given 67 = .ok (.iload_n 3, 1) := by decide +kernel
theorem dX8_given_68 : decode cX8_given 68 = .ok (.iload 4, 2) := by decide +kernel
theorem dX8_given_70 : decode cX8_given 70 = .ok (.aload_n 0, 1) := by decide +kernel
theorem dX8_given_71 : decode cX8_given 71 = .ok (.getfield 47, 3) := by decide +kernel
theorem dX8_given_74 : decode cX8_given 74 = .ok (.invokevirtual 127, 3) := by decide +kernel
theorem dX8_given_77 : decode cX8_given 77 = .ok (.ireturn, 1) := by decide +kernel
theorem dX8_as_0 : decode cX8_as 0 = .ok (.aload_n 0, 1) := by decide +kernel
theorem dX8_as_1 : decode cX8_as 1 = .ok (.iload_n 1, 1) := by decide +kernel
theorem dX8_as_2 : decode cX8_as 2 = .ok (.invokevirtual 90, 3) := by decide +kernel
theorem dX8_as_5 : decode cX8_as 5 = .ok (.ifCond .eq 10, 3) := by decide +kernel
theorem dX8_as_8 : decode cX8_as 8 = .ok (.iload_n 2, 1) := by decide +kernel
theorem dX8_as_9 : decode cX8_as 9 = .ok (.invokestatic 73, 3) := by decide +kernel
theorem dX8_as_12 : decode cX8_as 12 = .ok (.ifCond .ne 6, 3) := by decide +kernel
theorem dX8_as_15 : decode cX8_as 15 = .ok (.ldc 81, 2) := by decide +kernel
theorem dX8_as_17 : decode cX8_as 17 = .ok (.ireturn, 1) := by decide +kernel
theorem dX8_as_18 : decode cX8_as 18 = .ok (.aload_n 0, 1) := by decide +kernel
theorem dX8_as_19 : decode cX8_as 19 = .ok (.getfield 10, 3) := by decide +kernel
theorem dX8_as_22 : decode cX8_as 22 = .ok (.getfield 93, 3) := by decide +kernel
theorem dX8_as_25 : decode cX8_as 25 = .ok (.iload_n 1, 1) := by decide +kernel
theorem dX8_as_26 : decode cX8_as 26 = .ok (.iaload, 1) := by decide +kernel
theorem dX8_as_27 : decode cX8_as 27 = .ok (.iload_n 2, 1) := by decide +kernel
theorem dX8_as_28 : decode cX8_as 28 = .ok (.invokestatic 131, 3) := by decide +kernel
theorem dX8_as_31 : decode cX8_as 31 = .ok (.ifCond .eq 15, 3) := by decide +kernel
theorem dX8_as_34 : decode cX8_as 34 = .ok (.aload_n 0, 1) := by decide +kernel
theorem dX8_as_35 : decode cX8_as 35 = .ok (.getfield 10, 3) := by decide +kernel
theorem dX8_as_38 : decode cX8_as 38 = .ok (.getfield 99, 3) := by decide +kernel
theorem dX8_as_41 : decode cX8_as 41 = .ok (.iload_n 1, 1) := by decide +kernel
theorem dX8_as_42 : decode cX8_as 42 = .ok (.iaload, 1) := by decide +kernel
theorem dX8_as_43 : decode cX8_as 43 = .ok (.goto 5, 3) := by decide +kernel
theorem dX8_as_46 : decode cX8_as 46 = .ok (.ldc 135, 2) := by decide +kernel
theorem dX8_as_48 : decode cX8_as 48 = .ok (.ireturn, 1) := by decide +kernel
theorem dX8_turns_0 : decode cX8_turns 0 = .ok (.aload_n 0, 1) := by decide +kernel
theorem dX8_turns_1 : decode cX8_turns 1 = .ok (.iload_n 1, 1) := by decide +kernel
theorem dX8_turns_2 : decode cX8_turns 2 = .ok (.invokevirtual 90, 3) := by decide +kernel
theorem dX8_turns_5 : decode cX8_turns 5 = .ok (.ifCond .eq 10, 3) := by decide +kernel
theorem dX8_turns_8 : decode cX8_turns 8 = .ok (.iload_n 2, 1) := by decide +kernel
theorem dX8_turns_9 : decode cX8_turns 9 = .ok (.invokestatic 73, 3) := by decide +kernel
theorem dX8_turns_12 : decode cX8_turns 12 = .ok (.ifCond .ne 6, 3) := by decide +kernel
theorem dX8_turns_15 : decode cX8_turns 15 = .ok (.ldc 81, 2) := by decide +kernel
theorem dX8_turns_17 : decode cX8_turns 17 = .ok (.ireturn, 1) := by decide +kernel
theorem dX8_turns_18 : decode cX8_turns 18 = .ok (.aload_n 0, 1) := by decide +kernel
theorem dX8_turns_19 : decode cX8_turns 19 = .ok (.getfield 10, 3) := by decide +kernel
theorem dX8_turns_22 : decode cX8_turns 22 = .ok (.getfield 93, 3) := by decide +kernel
theorem dX8_turns_25 : decode cX8_turns 25 = .ok (.iload_n 1, 1) := by decide +kernel
theorem dX8_turns_26 : decode cX8_turns 26 = .ok (.iaload, 1) := by decide +kernel
theorem dX8_turns_27 : decode cX8_turns 27 = .ok (.istore_n 3, 1) := by decide +kernel
theorem dX8_turns_28 : decode cX8_turns 28 = .ok (.aload_n 0, 1) := by decide +kernel
theorem dX8_turns_29 : decode cX8_turns 29 = .ok (.getfield 10, 3) := by decide +kernel
theorem dX8_turns_32 : decode cX8_turns 32 = .ok (.getfield 93, 3) := by decide +kernel
theorem dX8_turns_35 : decode cX8_turns 35 = .ok (.iload_n 1, 1) := by decide +kernel
theorem dX8_turns_36 : decode cX8_turns 36 = .ok (.iload_n 2, 1) := by decide +kernel
theorem dX8_turns_37 : decode cX8_turns 37 = .ok (.iastore, 1) := by decide +kernel
theorem dX8_turns_38 : decode cX8_turns 38 = .ok (.iload_n 3, 1) := by decide +kernel
theorem dX8_turns_39 : decode cX8_turns 39 = .ok (.ireturn, 1) := by decide +kernel
theorem dX8_set_0 : decode cX8_set 0 = .ok (.aload_n 0, 1) := by decide +kernel
theorem dX8_set_1 : decode cX8_set 1 = .ok (.iload_n 1, 1) := by decide +kernel
theorem dX8_set_2 : decode cX8_set 2 = .ok (.invokevirtual 90, 3) := by decide +kernel
theorem dX8_set_5 : decode cX8_set 5 = .ok (.ifCond .ne 6, 3) := by decide +kernel
theorem dX8_set_8 : decode cX8_set 8 = .ok (.ldc 81, 2) := by decide +kernel
theorem dX8_set_10 : decode cX8_set 10 = .ok (.ireturn, 1) := by decide +kernel
theorem dX8_set_11 : decode cX8_set 11 = .ok (.iload_n 2, 1) := by decide +kernel
theorem dX8_set_12 : decode cX8_set 12 = .ok (.iconst 1, 1) := by decide +kernel
theorem dX8_set_13 : decode cX8_set 13 = .ok (.if_icmp .ne 37, 3) := by decide +kernel
theorem dX8_set_16 : decode cX8_set 16 = .ok (.iload_n 3, 1) := by decide +kernel
theorem dX8_set_17 : decode cX8_set 17 = .ok (.iconst 0, 1) := by decide +kernel
theorem dX8_set_18 : decode cX8_set 18 = .ok (.bipush 8, 2) := by decide +kernel
theorem dX8_set_20 : decode cX8_set 20 = .ok (.invokestatic 77, 3) := by decide +kernel
theorem dX8_set_23 : decode cX8_set 23 = .ok (.ifCond .eq 27, 3) := by decide +kernel
theorem dX8_set_26 : decode cX8_set 26 = .ok (.aload_n 0, 1) := by decide +kernel
theorem dX8_set_27 : decode cX8_set 27 = .ok (.getfield 10, 3) := by decide +kernel
theorem dX8_set_30 : decode cX8_set 30 = .ok (.getfield 96, 3) := by decide +kernel
theorem dX8_set_33 : decode cX8_set 33 = .ok (.iload_n 1, 1) := by decide +kernel
theorem dX8_set_34 : decode cX8_set 34 = .ok (.iaload, 1) := by decide +kernel
theorem dX8_set_35 : decode cX8_set 35 = .ok (.istore 4, 2) := by decide +kernel
theorem dX8_set_37 : decode cX8_set 37 = .ok (.aload_n 0, 1) := by decide +kernel
theorem dX8_set_38 : decode cX8_set 38 = .ok (.getfield 10, 3) := by decide +kernel
theorem dX8_set_41 : decode cX8_set 41 = .ok (.getfield 96, 3) := by decide +kernel
theorem dX8_set_44 : decode cX8_set 44 = .ok (.iload_n 1, 1) := by decide +kernel
theorem dX8_set_45 : decode cX8_set 45 = .ok (.iload_n 3, 1) := by decide +kernel
theorem dX8_set_46 : decode cX8_set 46 = .ok (.iastore, 1) := by decide +kernel
theorem dX8_set_47 : decode cX8_set 47 = .ok (.iload 4, 2) := by decide +kernel
theorem dX8_set_49 : decode cX8_set 49 = .ok (.ireturn, 1) := by decide +kernel
theorem dX8_set_50 : decode cX8_set 50 = .ok (.iload_n 2, 1) := by decide +kernel
theorem dX8_set_51 : decode cX8_set 51 = .ok (.iconst 2, 1) := by decide +kernel
theorem dX8_set_52 : decode cX8_set 52 = .ok (.if_icmp .ne 37, 3) := by decide +kernel
theorem dX8_set_55 : decode cX8_set 55 = .ok (.iload_n 3, 1) := by decide +kernel
theorem dX8_set_56 : decode cX8_set 56 = .ok (.iconst 0, 1) := by decide +kernel
theorem dX8_set_57 : decode cX8_set 57 = .ok (.bipush 20, 2) := by decide +kernel
theorem dX8_set_59 : decode cX8_set 59 = .ok (.invokestatic 77, 3) := by decide +kernel
theorem dX8_set_62 : decode cX8_set 62 = .ok (.ifCond .eq 27, 3) := by decide +kernel
theorem dX8_set_65 : decode cX8_set 65 = .ok (.aload_n 0, 1) := by decide +kernel
theorem dX8_set_66 : decode cX8_set 66 = .ok (.getfield 10, 3) := by decide +kernel
theorem dX8_set_69 : decode cX8_set 69 = .ok (.getfield 99, 3) := by decide +kernel
theorem dX8_set_72 : decode cX8_set 72 = .ok (.iload_n 1, 1) := by decide +kernel
theorem dX8_set_73 : decode cX8_set 73 = .ok (.iaload, 1) := by decide +kernel
theorem dX8_set_74 : decode cX8_set 74 = .ok (.istore 4, 2) := by decide +kernel
theorem dX8_set_76 : decode cX8_set 76 = .ok (.aload_n 0, 1) := by decide +kernel
theorem dX8_set_77 : decode cX8_set 77 = .ok (.getfield 10, 3) := by decide +kernel
theorem dX8_set_80 : decode cX8_set 80 = .ok (.getfield 99, 3) := by decide +kernel
theorem dX8_set_83 : decode cX8_set 83 = .ok (.iload_n 1, 1) := by decide +kernel
theorem dX8_set_84 : decode cX8_set 84 = .ok (.iload_n 3, 1) := by decide +kernel
theorem dX8_set_85 : decode cX8_set 85 = .ok (.iastore, 1) := by decide +kernel
theorem dX8_set_86 : decode cX8_set 86 = .ok (.iload 4, 2) := by decide +kernel
theorem dX8_set_88 : decode cX8_set 88 = .ok (.ireturn, 1) := by decide +kernel
theorem dX8_set_89 : decode cX8_set 89 = .ok (.ldc 81, 2) := by decide +kernel
theorem dX8_set_91 : decode cX8_set 91 = .ok (.ireturn, 1) := by decide +kernel
theorem dX8_rent_0 : decode cX8_rent 0 = .ok (.iload_n 1, 1) := by decide +kernel
theorem dX8_rent_1 : decode cX8_rent 1 = .ok (.invokestatic 136, 3) := by decide +kernel
theorem dX8_rent_4 : decode cX8_rent 4 = .ok (.ifCond .eq 13, 3) := by decide +kernel
theorem dX8_rent_7 : decode cX8_rent 7 = .ok (.iload_n 2, 1) := by decide +kernel
theorem dX8_rent_8 : decode cX8_rent 8 = .ok (.iconst 0, 1) := by decide +kernel
theorem dX8_rent_9 : decode cX8_rent 9 = .ok (.bipush 9, 2) := by decide +kernel
theorem dX8_rent_11 : decode cX8_rent 11 = .ok (.invokestatic 77, 3) := by decide +kernel
theorem dX8_rent_14 : decode cX8_rent 14 = .ok (.ifCond .ne 6, 3) := by decide +kernel
theorem dX8_rent_17 : decode cX8_rent 17 = .ok (.ldc 81, 2) := by decide +kernel
theorem dX8_rent_19 : decode cX8_rent 19 = .ok (.ireturn, 1) := by decide +kernel
theorem dX8_rent_20 : decode cX8_rent 20 = .ok (.aload_n 0, 1) := by decide +kernel
theorem dX8_rent_21 : decode cX8_rent 21 = .ok (.getfield 10, 3) := by decide +kernel
theorem dX8_rent_24 : decode cX8_rent 24 = .ok (.getfield 139, 3) := by decide +kernel
theorem dX8_rent_27 : decode cX8_rent 27 = .ok (.iload_n 1, 1) := by decide +kernel
theorem dX8_rent_28 : decode cX8_rent 28 = .ok (.iaload, 1) := by decide +kernel
theorem dX8_rent_29 : decode cX8_rent 29 = .ok (.istore_n 3, 1) := by decide +kernel
theorem dX8_rent_30 : decode cX8_rent 30 = .ok (.aload_n 0, 1) := by decide +kernel
theorem dX8_rent_31 : decode cX8_rent 31 = .ok (.getfield 10, 3) := by decide +kernel
theorem dX8_rent_34 : decode cX8_rent 34 = .ok (.getfield 139, 3) := by decide +kernel
theorem dX8_rent_37 : decode cX8_rent 37 = .ok (.iload_n 1, 1) := by decide +kernel
theorem dX8_rent_38 : decode cX8_rent 38 = .ok (.iload_n 2, 1) := by decide +kernel
theorem dX8_rent_39 : decode cX8_rent 39 = .ok (.iastore, 1) := by decide +kernel
theorem dX8_rent_40 : decode cX8_rent 40 = .ok (.iload_n 3, 1) := by decide +kernel
theorem dX8_rent_41 : decode cX8_rent 41 = .ok (.ireturn, 1) := by decide +kernel
theorem dX8_rule_0 : decode cX8_rule 0 = .ok (.iload_n 1, 1) := by decide +kernel
theorem dX8_rule_1 : decode cX8_rule 1 = .ok (.ifCond .ne 31, 3) := by decide +kernel
theorem dX8_rule_4 : decode cX8_rule 4 = .ok (.iload_n 2, 1) := by decide +kernel
theorem dX8_rule_5 : decode cX8_rule 5 = .ok (.iconst 0, 1) := by decide +kernel
theorem dX8_rule_6 : decode cX8_rule 6 = .ok (.bipush 100, 2) := by decide +kernel
theorem dX8_rule_8 : decode cX8_rule 8 = .ok (.invokestatic 77, 3) := by decide +kernel
theorem dX8_rule_11 : decode cX8_rule 11 = .ok (.ifCond .eq 21, 3) := by decide +kernel
theorem dX8_rule_14 : decode cX8_rule 14 = .ok (.aload_n 0, 1) := by decide +kernel
theorem dX8_rule_15 : decode cX8_rule 15 = .ok (.getfield 10, 3) := by decide +kernel
theorem dX8_rule_18 : decode cX8_rule 18 = .ok (.getfield 142, 3) := by decide +kernel
theorem dX8_rule_21 : decode cX8_rule 21 = .ok (.istore_n 3, 1) := by decide +kernel
theorem dX8_rule_22 : decode cX8_rule 22 = .ok (.aload_n 0, 1) := by decide +kernel
theorem dX8_rule_23 : decode cX8_rule 23 = .ok (.getfield 10, 3) := by decide +kernel
theorem dX8_rule_26 : decode cX8_rule 26 = .ok (.iload_n 2, 1) := by decide +kernel
theorem dX8_rule_27 : decode cX8_rule 27 = .ok (.putfield 142, 3) := by decide +kernel
theorem dX8_rule_30 : decode cX8_rule 30 = .ok (.iload_n 3, 1) := by decide +kernel
theorem dX8_rule_31 : decode cX8_rule 31 = .ok (.ireturn, 1) := by decide +kernel
theorem dX8_rule_32 : decode cX8_rule 32 = .ok (.iload_n 1, 1) := by decide +kernel
theorem dX8_rule_33 : decode cX8_rule 33 = .ok (.iconst 1, 1) := by decide +kernel
theorem dX8_rule_34 : decode cX8_rule 34 = .ok (.if_icmp .ne 47, 3) := by decide +kernel
theorem dX8_rule_37 : decode cX8_rule 37 = .ok (.iload_n 2, 1) := by decide +kernel
theorem dX8_rule_38 : decode cX8_rule 38 = .ok (.iconst 0, 1) := by decide +kernel
theorem dX8_rule_39 : decode cX8_rule 39 = .ok (.iconst 1, 1) := by decide +kernel
theorem dX8_rule_40 : decode cX8_rule 40 = .ok (.invokestatic 77, 3) := by decide +kernel
theorem dX8_rule_43 : decode cX8_rule 43 = .ok (.ifCond .eq 38, 3) := by decide +kernel
theorem dX8_rule_46 : decode cX8_rule 46 = .ok (.aload_n 0, 1) := by decide +kernel
theorem dX8_rule_47 : decode cX8_rule 47 = .ok (.getfield 10, 3) := by decide +kernel
theorem dX8_rule_50 : decode cX8_rule 50 = .ok (.getfield 145, 3) := by decide +kernel
theorem dX8_rule_53 : decode cX8_rule 53 = .ok (.ifCond .eq 7, 3) := by decide +kernel
theorem dX8_rule_56 : decode cX8_rule 56 = .ok (.iconst 1, 1) := by decide +kernel
theorem dX8_rule_57 : decode cX8_rule 57 = .ok (.goto 4, 3) := by decide +kernel
theorem dX8_rule_60 : decode cX8_rule 60 = .ok (.iconst 0, 1) := by decide +kernel
theorem dX8_rule_61 : decode cX8_rule 61 = .ok (.istore_n 3, 1) := by decide +kernel
theorem dX8_rule_62 : decode cX8_rule 62 = .ok (.aload_n 0, 1) := by decide +kernel
theorem dX8_rule_63 : decode cX8_rule 63 = .ok (.getfield 10, 3) := by decide +kernel
theorem dX8_rule_66 : decode cX8_rule 66 = .ok (.iload_n 2, 1) := by decide +kernel
theorem dX8_rule_67 : decode cX8_rule 67 = .ok (.iconst 1, 1) := by decide +kernel
theorem dX8_rule_68 : decode cX8_rule 68 = .ok (.if_icmp .ne 7, 3) := by decide +kernel
theorem dX8_rule_71 : decode cX8_rule 71 = .ok (.iconst 1, 1) := by decide +kernel
theorem dX8_rule_72 : decode cX8_rule 72 = .ok (.goto 4, 3) := by decide +kernel
theorem dX8_rule_75 : decode cX8_rule 75 = .ok (.iconst 0, 1) := by decide +kernel
theorem dX8_rule_76 : decode cX8_rule 76 = .ok (.putfield 145, 3) := by decide +kernel
theorem dX8_rule_79 : decode cX8_rule 79 = .ok (.iload_n 3, 1) := by decide +kernel
theorem dX8_rule_80 : decode cX8_rule 80 = .ok (.ireturn, 1) := by decide +kernel
theorem dX8_rule_81 : decode cX8_rule 81 = .ok (.iload_n 1, 1) := by decide +kernel
theorem dX8_rule_82 : decode cX8_rule 82 = .ok (.iconst 2, 1) := by decide +kernel
theorem dX8_rule_83 : decode cX8_rule 83 = .ok (.if_icmp .ne 31, 3) := by decide +kernel
theorem dX8_rule_86 : decode cX8_rule 86 = .ok (.iload_n 2, 1) := by decide +kernel
theorem dX8_rule_87 : decode cX8_rule 87 = .ok (.iconst 0, 1) := by decide +kernel
theorem dX8_rule_88 : decode cX8_rule 88 = .ok (.bipush 8, 2) := by decide +kernel
theorem dX8_rule_90 : decode cX8_rule 90 = .ok (.invokestatic 77, 3) := by decide +kernel
theorem dX8_rule_93 : decode cX8_rule 93 = .ok (.ifCond .eq 21, 3) := by decide +kernel
theorem dX8_rule_96 : decode cX8_rule 96 = .ok (.aload_n 0, 1) := by decide +kernel
theorem dX8_rule_97 : decode cX8_rule 97 = .ok (.getfield 10, 3) := by decide +kernel
theorem dX8_rule_100 : decode cX8_rule 100 = .ok (.getfield 148, 3) := by decide +kernel
theorem dX8_rule_103 : decode cX8_rule 103 = .ok (.istore_n 3, 1) := by decide +kernel
theorem dX8_rule_104 : decode cX8_rule 104 = .ok (.aload_n 0, 1) := by decide +kernel
theorem dX8_rule_105 : decode cX8_rule 105 = .ok (.getfield 10, 3) := by decide +kernel
theorem dX8_rule_108 : decode cX8_rule 108 = .ok (.iload_n 2, 1) := by decide +kernel
theorem dX8_rule_109 : decode cX8_rule 109 = .ok (.putfield 148, 3) := by decide +kernel
theorem dX8_rule_112 : decode cX8_rule 112 = .ok (.iload_n 3, 1) := by decide +kernel
theorem dX8_rule_113 : decode cX8_rule 113 = .ok (.ireturn, 1) := by decide +kernel
theorem dX8_rule_114 : decode cX8_rule 114 = .ok (.ldc 81, 2) := by decide +kernel
theorem dX8_rule_116 : decode cX8_rule 116 = .ok (.ireturn, 1) := by decide +kernel
theorem dX8_deal_0 : decode cX8_deal 0 = .ok (.iload_n 1, 1) := by decide +kernel
theorem dX8_deal_1 : decode cX8_deal 1 = .ok (.iconst 1, 1) := by decide +kernel
theorem dX8_deal_2 : decode cX8_deal 2 = .ok (.bipush 8, 2) := by decide +kernel
theorem dX8_deal_4 : decode cX8_deal 4 = .ok (.invokestatic 77, 3) := by decide +kernel
theorem dX8_deal_7 : decode cX8_deal 7 = .ok (.ifCond .ne 6, 3) := by decide +kernel
theorem dX8_deal_10 : decode cX8_deal 10 = .ok (.ldc 81, 2) := by decide +kernel
theorem dX8_deal_12 : decode cX8_deal 12 = .ok (.ireturn, 1) := by decide +kernel
theorem dX8_deal_13 : decode cX8_deal 13 = .ok (.iload_n 1, 1) := by decide +kernel
theorem dX8_deal_14 : decode cX8_deal 14 = .ok (.bipush 8, 2) := by decide +kernel
theorem dX8_deal_16 : decode cX8_deal 16 = .ok (.aload_n 0, 1) := by decide +kernel
theorem dX8_deal_17 : decode cX8_deal 17 = .ok (.getfield 10, 3) := by decide +kernel
theorem dX8_deal_20 : decode cX8_deal 20 = .ok (.getfield 82, 3) := by decide +kernel
theorem dX8_deal_23 : decode cX8_deal 23 = .ok (.isub, 1) := by decide +kernel
theorem dX8_deal_24 : decode cX8_deal 24 = .ok (.invokestatic 151, 3) := by decide +kernel
theorem dX8_deal_27 : decode cX8_deal 27 = .ok (.istore_n 2, 1) := by decide +kernel
theorem dX8_deal_28 : decode cX8_deal 28 = .ok (.iconst 0, 1) := by decide +kernel
theorem dX8_deal_29 : decode cX8_deal 29 = .ok (.istore_n 3, 1) := by decide +kernel
theorem dX8_deal_30 : decode cX8_deal 30 = .ok (.iload_n 3, 1) := by decide +kernel
theorem dX8_deal_31 : decode cX8_deal 31 = .ok (.iload_n 2, 1) := by decide +kernel
theorem dX8_deal_32 : decode cX8_deal 32 = .ok (.if_icmp .ge 59, 3) := by decide +kernel
theorem dX8_deal_35 : decode cX8_deal 35 = .ok (.aload_n 0, 1) := by decide +kernel
theorem dX8_deal_36 : decode cX8_deal 36 = .ok (.getfield 10, 3) := by decide +kernel
theorem dX8_deal_39 : decode cX8_deal 39 = .ok (.invokevirtual 156, 3) := by decide +kernel
theorem dX8_deal_42 : decode cX8_deal 42 = .ok (.bipush 6, 2) := by decide +kernel
theorem dX8_deal_44 : decode cX8_deal 44 = .ok (.irem, 1) := by decide +kernel
theorem dX8_deal_45 : decode cX8_deal 45 = .ok (.istore 4, 2) := by decide +kernel
theorem dX8_deal_47 : decode cX8_deal 47 = .ok (.aload_n 0, 1) := by decide +kernel
theorem dX8_deal_48 : decode cX8_deal 48 = .ok (.getfield 10, 3) := by decide +kernel
theorem dX8_deal_51 : decode cX8_deal 51 = .ok (.invokevirtual 156, 3) := by decide +kernel
theorem dX8_deal_54 : decode cX8_deal 54 = .ok (.bipush 9, 2) := by decide +kernel
theorem dX8_deal_56 : decode cX8_deal 56 = .ok (.irem, 1) := by decide +kernel
theorem dX8_deal_57 : decode cX8_deal 57 = .ok (.istore 5, 2) := by decide +kernel
theorem dX8_deal_59 : decode cX8_deal 59 = .ok (.aload_n 0, 1) := by decide +kernel
theorem dX8_deal_60 : decode cX8_deal 60 = .ok (.getfield 10, 3) := by decide +kernel
theorem dX8_deal_63 : decode cX8_deal 63 = .ok (.invokevirtual 156, 3) := by decide +kernel
theorem dX8_deal_66 : decode cX8_deal 66 = .ok (.bipush 21, 2) := by decide +kernel
theorem dX8_deal_68 : decode cX8_deal 68 = .ok (.irem, 1) := by decide +kernel
theorem dX8_deal_69 : decode cX8_deal 69 = .ok (.istore 6, 2) := by decide +kernel
theorem dX8_deal_71 : decode cX8_deal 71 = .ok (.aload_n 0, 1) := by decide +kernel
theorem dX8_deal_72 : decode cX8_deal 72 = .ok (.getfield 10, 3) := by decide +kernel
theorem dX8_deal_75 : decode cX8_deal 75 = .ok (.iload 4, 2) := by decide +kernel
theorem dX8_deal_77 : decode cX8_deal 77 = .ok (.iload 5, 2) := by decide +kernel
theorem dX8_deal_79 : decode cX8_deal 79 = .ok (.iload 6, 2) := by decide +kernel
theorem dX8_deal_81 : decode cX8_deal 81 = .ok (.invokevirtual 86, 3) := by decide +kernel
theorem dX8_deal_84 : decode cX8_deal 84 = .ok (.pop, 1) := by decide +kernel
theorem dX8_deal_85 : decode cX8_deal 85 = .ok (.iinc 3 1, 3) := by decide +kernel
theorem dX8_deal_88 : decode cX8_deal 88 = .ok (.goto (-58), 3) := by decide +kernel
theorem dX8_deal_91 : decode cX8_deal 91 = .ok (.iload_n 2, 1) := by decide +kernel
theorem dX8_deal_92 : decode cX8_deal 92 = .ok (.ireturn, 1) := by decide +kernel
theorem dX8_seed_0 : decode cX8_seed 0 = .ok (.aload_n 0, 1) := by decide +kernel
theorem dX8_seed_1 : decode cX8_seed 1 = .ok (.getfield 10, 3) := by decide +kernel
theorem dX8_seed_4 : decode cX8_seed 4 = .ok (.getfield 160, 3) := by decide +kernel
theorem dX8_seed_7 : decode cX8_seed 7 = .ok (.istore_n 2, 1) := by decide +kernel
theorem dX8_seed_8 : decode cX8_seed 8 = .ok (.aload_n 0, 1) := by decide +kernel
theorem dX8_seed_9 : decode cX8_seed 9 = .ok (.getfield 10, 3) := by decide +kernel
theorem dX8_seed_12 : decode cX8_seed 12 = .ok (.iload_n 1, 1) := by decide +kernel
theorem dX8_seed_13 : decode cX8_seed 13 = .ok (.putfield 160, 3) := by decide +kernel
theorem dX8_seed_16 : decode cX8_seed 16 = .ok (.iload_n 2, 1) := by decide +kernel
theorem dX8_seed_17 : decode cX8_seed 17 = .ok (.ireturn, 1) := by decide +kernel
theorem dX8_hours_0 : decode cX8_hours 0 = .ok (.iload_n 1, 1) := by decide +kernel
theorem dX8_hours_1 : decode cX8_hours 1 = .ok (.iconst 1, 1) := by decide +kernel
theorem dX8_hours_2 : decode cX8_hours 2 = .ok (.bipush 100, 2) := by decide +kernel
theorem dX8_hours_4 : decode cX8_hours 4 = .ok (.invokestatic 77, 3) := by decide +kernel
theorem dX8_hours_7 : decode cX8_hours 7 = .ok (.ifCond .ne 6, 3) := by decide +kernel
theorem dX8_hours_10 : decode cX8_hours 10 = .ok (.ldc 81, 2) := by decide +kernel
theorem dX8_hours_12 : decode cX8_hours 12 = .ok (.ireturn, 1) := by decide +kernel
theorem dX8_hours_13 : decode cX8_hours 13 = .ok (.aload_n 0, 1) := by decide +kernel
theorem dX8_hours_14 : decode cX8_hours 14 = .ok (.getfield 10, 3) := by decide +kernel
theorem dX8_hours_17 : decode cX8_hours 17 = .ok (.invokevirtual 163, 3) := by decide +kernel
theorem dX8_hours_20 : decode cX8_hours 20 = .ok (.istore_n 2, 1) := by decide +kernel
theorem dX8_hours_21 : decode cX8_hours 21 = .ok (.aload_n 0, 1) := by decide +kernel
theorem dX8_hours_22 : decode cX8_hours 22 = .ok (.getfield 47, 3) := by decide +kernel
theorem dX8_hours_25 : decode cX8_hours 25 = .ok (.aload_n 0, 1) := by decide +kernel
theorem dX8_hours_26 : decode cX8_hours 26 = .ok (.iconst 0, 1) := by decide +kernel
theorem dX8_hours_27 : decode cX8_hours 27 = .ok (.aload_n 0, 1) := by decide +kernel
theorem dX8_hours_28 : decode cX8_hours 28 = .ok (.getfield 10, 3) := by decide +kernel
theorem dX8_hours_31 : decode cX8_hours 31 = .ok (.getfield 117, 3) := by decide +kernel
theorem dX8_hours_34 : decode cX8_hours 34 = .ok (.invokevirtual 119, 3) := by decide +kernel
theorem dX8_hours_37 : decode cX8_hours 37 = .ok (.invokevirtual 123, 3) := by decide +kernel
theorem dX8_hours_40 : decode cX8_hours 40 = .ok (.aload_n 0, 1) := by decide +kernel
theorem dX8_hours_41 : decode cX8_hours 41 = .ok (.getfield 10, 3) := by decide +kernel
theorem dX8_hours_44 : decode cX8_hours 44 = .ok (.iload_n 1, 1) := by decide +kernel
theorem dX8_hours_45 : decode cX8_hours 45 = .ok (.sipush 9999, 3) := by decide +kernel
theorem dX8_hours_48 : decode cX8_hours 48 = .ok (.aload_n 0, 1) := by decide +kernel
theorem dX8_hours_49 : decode cX8_hours 49 = .ok (.getfield 10, 3) := by decide +kernel
theorem dX8_hours_52 : decode cX8_hours 52 = .ok (.getfield 166, 3) := by decide +kernel
theorem dX8_hours_55 : decode cX8_hours 55 = .ok (.isub, 1) := by decide +kernel
theorem dX8_hours_56 : decode cX8_hours 56 = .ok (.invokestatic 151, 3) := by decide +kernel
theorem dX8_hours_59 : decode cX8_hours 59 = .ok (.aload_n 0, 1) := by decide +kernel
theorem dX8_hours_60 : decode cX8_hours 60 = .ok (.getfield 47, 3) := by decide +kernel
theorem dX8_hours_63 : decode cX8_hours 63 = .ok (.invokevirtual 169, 3) := by decide +kernel
theorem dX8_hours_66 : decode cX8_hours 66 = .ok (.aload_n 0, 1) := by decide +kernel
theorem dX8_hours_67 : decode cX8_hours 67 = .ok (.getfield 10, 3) := by decide +kernel
theorem dX8_hours_70 : decode cX8_hours 70 = .ok (.invokevirtual 163, 3) := by decide +kernel
theorem dX8_hours_73 : decode cX8_hours 73 = .ok (.iload_n 2, 1) := by decide +kernel
theorem dX8_hours_74 : decode cX8_hours 74 = .ok (.isub, 1) := by decide +kernel
theorem dX8_hours_75 : decode cX8_hours 75 = .ok (.ireturn, 1) := by decide +kernel
theorem dX8_guild_0 : decode cX8_guild 0 = .ok (.iload_n 1, 1) := by decide +kernel
theorem dX8_guild_1 : decode cX8_guild 1 = .ok (.tableswitch 75 0 4 #[35, 43, 51, 59, 67], 35) := by decide +kernel
theorem dX8_guild_36 : decode cX8_guild 36 = .ok (.aload_n 0, 1) := by decide +kernel
theorem dX8_guild_37 : decode cX8_guild 37 = .ok (.getfield 10, 3) := by decide +kernel
theorem dX8_guild_40 : decode cX8_guild 40 = .ok (.invokevirtual 173, 3) := by decide +kernel
theorem dX8_guild_43 : decode cX8_guild 43 = .ok (.ireturn, 1) := by decide +kernel
theorem dX8_guild_44 : decode cX8_guild 44 = .ok (.aload_n 0, 1) := by decide +kernel
theorem dX8_guild_45 : decode cX8_guild 45 = .ok (.getfield 10, 3) := by decide +kernel
theorem dX8_guild_48 : decode cX8_guild 48 = .ok (.getfield 176, 3) := by decide +kernel
theorem dX8_guild_51 : decode cX8_guild 51 = .ok (.ireturn, 1) := by decide +kernel
theorem dX8_guild_52 : decode cX8_guild 52 = .ok (.aload_n 0, 1) := by decide +kernel
theorem dX8_guild_53 : decode cX8_guild 53 = .ok (.getfield 10, 3) := by decide +kernel
theorem dX8_guild_56 : decode cX8_guild 56 = .ok (.invokevirtual 163, 3) := by decide +kernel
theorem dX8_guild_59 : decode cX8_guild 59 = .ok (.ireturn, 1) := by decide +kernel
theorem dX8_guild_60 : decode cX8_guild 60 = .ok (.aload_n 0, 1) := by decide +kernel
theorem dX8_guild_61 : decode cX8_guild 61 = .ok (.getfield 10, 3) := by decide +kernel
theorem dX8_guild_64 : decode cX8_guild 64 = .ok (.invokevirtual 179, 3) := by decide +kernel
theorem dX8_guild_67 : decode cX8_guild 67 = .ok (.ireturn, 1) := by decide +kernel
theorem dX8_guild_68 : decode cX8_guild 68 = .ok (.aload_n 0, 1) := by decide +kernel
theorem dX8_guild_69 : decode cX8_guild 69 = .ok (.getfield 10, 3) := by decide +kernel
theorem dX8_guild_72 : decode cX8_guild 72 = .ok (.invokevirtual 182, 3) := by decide +kernel
theorem dX8_guild_75 : decode cX8_guild 75 = .ok (.ireturn, 1) := by decide +kernel
theorem dX8_guild_76 : decode cX8_guild 76 = .ok (.ldc 81, 2) := by decide +kernel
theorem dX8_guild_78 : decode cX8_guild 78 = .ok (.ireturn, 1) := by decide +kernel
theorem dX8_behind_0 : decode cX8_behind 0 = .ok (.iload_n 1, 1) := by decide +kernel
theorem dX8_behind_1 : decode cX8_behind 1 = .ok (.iconst 0, 1) := by decide +kernel
theorem dX8_behind_2 : decode cX8_behind 2 = .ok (.bipush 100, 2) := by decide +kernel
theorem dX8_behind_4 : decode cX8_behind 4 = .ok (.invokestatic 77, 3) := by decide +kernel
theorem dX8_behind_7 : decode cX8_behind 7 = .ok (.ifCond .eq 20, 3) := by decide +kernel
theorem dX8_behind_10 : decode cX8_behind 10 = .ok (.iload_n 2, 1) := by decide +kernel
theorem dX8_behind_11 : decode cX8_behind 11 = .ok (.iconst 0, 1) := by decide +kernel
theorem dX8_behind_12 : decode cX8_behind 12 = .ok (.iconst 2, 1) := by decide +kernel
theorem dX8_behind_13 : decode cX8_behind 13 = .ok (.aload_n 0, 1) := by decide +kernel
theorem dX8_behind_14 : decode cX8_behind 14 = .ok (.getfield 10, 3) := by decide +kernel
theorem dX8_behind_17 : decode cX8_behind 17 = .ok (.getfield 82, 3) := by decide +kernel
theorem dX8_behind_20 : decode cX8_behind 20 = .ok (.iadd, 1) := by decide +kernel
theorem dX8_behind_21 : decode cX8_behind 21 = .ok (.invokestatic 77, 3) := by decide +kernel
theorem dX8_behind_24 : decode cX8_behind 24 = .ok (.ifCond .ne 6, 3) := by decide +kernel
theorem dX8_behind_27 : decode cX8_behind 27 = .ok (.ldc 81, 2) := by decide +kernel
theorem dX8_behind_29 : decode cX8_behind 29 = .ok (.ireturn, 1) := by decide +kernel
theorem dX8_behind_30 : decode cX8_behind 30 = .ok (.aload_n 0, 1) := by decide +kernel
theorem dX8_behind_31 : decode cX8_behind 31 = .ok (.invokevirtual 185, 3) := by decide +kernel
theorem dX8_behind_34 : decode cX8_behind 34 = .ok (.aload_n 0, 1) := by decide +kernel
theorem dX8_behind_35 : decode cX8_behind 35 = .ok (.getfield 16, 3) := by decide +kernel
theorem dX8_behind_38 : decode cX8_behind 38 = .ok (.iload_n 1, 1) := by decide +kernel
theorem dX8_behind_39 : decode cX8_behind 39 = .ok (.aload_n 0, 1) := by decide +kernel
theorem dX8_behind_40 : decode cX8_behind 40 = .ok (.getfield 47, 3) := by decide +kernel
theorem dX8_behind_43 : decode cX8_behind 43 = .ok (.invokevirtual 169, 3) := by decide +kernel
theorem dX8_behind_46 : decode cX8_behind 46 = .ok (.iload_n 2, 1) := by decide +kernel
theorem dX8_behind_47 : decode cX8_behind 47 = .ok (.tableswitch 49 0 2 #[25, 33, 41], 25) := by decide +kernel
theorem dX8_behind_72 : decode cX8_behind 72 = .ok (.aload_n 0, 1) := by decide +kernel
theorem dX8_behind_73 : decode cX8_behind 73 = .ok (.getfield 16, 3) := by decide +kernel
theorem dX8_behind_76 : decode cX8_behind 76 = .ok (.invokevirtual 173, 3) := by decide +kernel
theorem dX8_behind_79 : decode cX8_behind 79 = .ok (.ireturn, 1) := by decide +kernel
theorem dX8_behind_80 : decode cX8_behind 80 = .ok (.aload_n 0, 1) := by decide +kernel
theorem dX8_behind_81 : decode cX8_behind 81 = .ok (.getfield 16, 3) := by decide +kernel
theorem dX8_behind_84 : decode cX8_behind 84 = .ok (.getfield 176, 3) := by decide +kernel
theorem dX8_behind_87 : decode cX8_behind 87 = .ok (.ireturn, 1) := by decide +kernel
theorem dX8_behind_88 : decode cX8_behind 88 = .ok (.aload_n 0, 1) := by decide +kernel
theorem dX8_behind_89 : decode cX8_behind 89 = .ok (.getfield 16, 3) := by decide +kernel
theorem dX8_behind_92 : decode cX8_behind 92 = .ok (.invokevirtual 163, 3) := by decide +kernel
theorem dX8_behind_95 : decode cX8_behind 95 = .ok (.ireturn, 1) := by decide +kernel
theorem dX8_behind_96 : decode cX8_behind 96 = .ok (.aload_n 0, 1) := by decide +kernel
theorem dX8_behind_97 : decode cX8_behind 97 = .ok (.getfield 16, 3) := by decide +kernel
theorem dX8_behind_100 : decode cX8_behind 100 = .ok (.getfield 102, 3) := by decide +kernel
theorem dX8_behind_103 : decode cX8_behind 103 = .ok (.iload_n 2, 1) := by decide +kernel
theorem dX8_behind_104 : decode cX8_behind 104 = .ok (.iconst 3, 1) := by decide +kernel
theorem dX8_behind_105 : decode cX8_behind 105 = .ok (.isub, 1) := by decide +kernel
theorem dX8_behind_106 : decode cX8_behind 106 = .ok (.iaload, 1) := by decide +kernel
theorem dX8_behind_107 : decode cX8_behind 107 = .ok (.ireturn, 1) := by decide +kernel
theorem dX8_best_0 : decode cX8_best 0 = .ok (.aload_n 0, 1) := by decide +kernel
theorem dX8_best_1 : decode cX8_best 1 = .ok (.iload_n 1, 1) := by decide +kernel
theorem dX8_best_2 : decode cX8_best 2 = .ok (.invokevirtual 90, 3) := by decide +kernel
theorem dX8_best_5 : decode cX8_best 5 = .ok (.ifCond .eq 22, 3) := by decide +kernel
theorem dX8_best_8 : decode cX8_best 8 = .ok (.iload_n 2, 1) := by decide +kernel
theorem dX8_best_9 : decode cX8_best 9 = .ok (.iconst 1, 1) := by decide +kernel
theorem dX8_best_10 : decode cX8_best 10 = .ok (.bipush 40, 2) := by decide +kernel
theorem dX8_best_12 : decode cX8_best 12 = .ok (.invokestatic 77, 3) := by decide +kernel
theorem dX8_best_15 : decode cX8_best 15 = .ok (.ifCond .eq 12, 3) := by decide +kernel
theorem dX8_best_18 : decode cX8_best 18 = .ok (.iload_n 3, 1) := by decide +kernel
theorem dX8_best_19 : decode cX8_best 19 = .ok (.iconst 0, 1) := by decide +kernel
theorem dX8_best_20 : decode cX8_best 20 = .ok (.iconst 1, 1) := by decide +kernel
theorem dX8_best_21 : decode cX8_best 21 = .ok (.invokestatic 77, 3) := by decide +kernel
theorem dX8_best_24 : decode cX8_best 24 = .ok (.ifCond .ne 6, 3) := by decide +kernel
theorem dX8_best_27 : decode cX8_best 27 = .ok (.ldc 81, 2) := by decide +kernel
theorem dX8_best_29 : decode cX8_best 29 = .ok (.ireturn, 1) := by decide +kernel
theorem dX8_best_30 : decode cX8_best 30 = .ok (.iconst 0, 1) := by decide +kernel
theorem dX8_best_31 : decode cX8_best 31 = .ok (.istore 4, 2) := by decide +kernel
theorem dX8_best_33 : decode cX8_best 33 = .ok (.iconst 0, 1) := by decide +kernel
theorem dX8_best_34 : decode cX8_best 34 = .ok (.istore 5, 2) := by decide +kernel
theorem dX8_best_36 : decode cX8_best 36 = .ok (.iconst 0, 1) := by decide +kernel
theorem dX8_best_37 : decode cX8_best 37 = .ok (.istore 6, 2) := by decide +kernel
theorem dX8_best_39 : decode cX8_best 39 = .ok (.iload 6, 2) := by decide +kernel
theorem dX8_best_41 : decode cX8_best 41 = .ok (.bipush 8, 2) := by decide +kernel
theorem dX8_best_43 : decode cX8_best 43 = .ok (.if_icmp .gt 67, 3) := by decide +kernel
theorem dX8_best_46 : decode cX8_best 46 = .ok (.aload_n 0, 1) := by decide +kernel
theorem dX8_best_47 : decode cX8_best 47 = .ok (.invokevirtual 185, 3) := by decide +kernel
theorem dX8_best_50 : decode cX8_best 50 = .ok (.aload_n 0, 1) := by decide +kernel
theorem dX8_best_51 : decode cX8_best 51 = .ok (.getfield 16, 3) := by decide +kernel
theorem dX8_best_54 : decode cX8_best 54 = .ok (.getfield 96, 3) := by decide +kernel
theorem dX8_best_57 : decode cX8_best 57 = .ok (.iload_n 1, 1) := by decide +kernel
theorem dX8_best_58 : decode cX8_best 58 = .ok (.iload 6, 2) := by decide +kernel
theorem dX8_best_60 : decode cX8_best 60 = .ok (.iastore, 1) := by decide +kernel
theorem dX8_best_61 : decode cX8_best 61 = .ok (.aload_n 0, 1) := by decide +kernel
theorem dX8_best_62 : decode cX8_best 62 = .ok (.getfield 16, 3) := by decide +kernel
theorem dX8_best_65 : decode cX8_best 65 = .ok (.iload_n 2, 1) := by decide +kernel
theorem dX8_best_66 : decode cX8_best 66 = .ok (.aload_n 0, 1) := by decide +kernel
theorem dX8_best_67 : decode cX8_best 67 = .ok (.getfield 47, 3) := by decide +kernel
theorem dX8_best_70 : decode cX8_best 70 = .ok (.invokevirtual 169, 3) := by decide +kernel
theorem dX8_best_73 : decode cX8_best 73 = .ok (.aload_n 0, 1) := by decide +kernel
theorem dX8_best_74 : decode cX8_best 74 = .ok (.getfield 16, 3) := by decide +kernel
theorem dX8_best_77 : decode cX8_best 77 = .ok (.getfield 102, 3) := by decide +kernel
theorem dX8_best_80 : decode cX8_best 80 = .ok (.iload_n 1, 1) := by decide +kernel
theorem dX8_best_81 : decode cX8_best 81 = .ok (.iaload, 1) := by decide +kernel
theorem dX8_best_82 : decode cX8_best 82 = .ok (.istore 7, 2) := by decide +kernel
theorem dX8_best_84 : decode cX8_best 84 = .ok (.iload 6, 2) := by decide +kernel
theorem dX8_best_86 : decode cX8_best 86 = .ok (.ifCond .eq 10, 3) := by decide +kernel
theorem dX8_best_89 : decode cX8_best 89 = .ok (.iload 7, 2) := by decide +kernel
theorem dX8_best_91 : decode cX8_best 91 = .ok (.iload 5, 2) := by decide +kernel
theorem dX8_best_93 : decode cX8_best 93 = .ok (.if_icmp .le 11, 3) := by decide +kernel
theorem dX8_best_96 : decode cX8_best 96 = .ok (.iload 6, 2) := by decide +kernel
theorem dX8_best_98 : decode cX8_best 98 = .ok (.istore 4, 2) := by decide +kernel
theorem dX8_best_100 : decode cX8_best 100 = .ok (.iload 7, 2) := by decide +kernel
theorem dX8_best_102 : decode cX8_best 102 = .ok (.istore 5, 2) := by decide +kernel
theorem dX8_best_104 : decode cX8_best 104 = .ok (.iinc 6 1, 3) := by decide +kernel
theorem dX8_best_107 : decode cX8_best 107 = .ok (.goto (-68), 3) := by decide +kernel
theorem dX8_best_110 : decode cX8_best 110 = .ok (.iload_n 3, 1) := by decide +kernel
theorem dX8_best_111 : decode cX8_best 111 = .ok (.ifCond .ne 8, 3) := by decide +kernel
theorem dX8_best_114 : decode cX8_best 114 = .ok (.iload 4, 2) := by decide +kernel
theorem dX8_best_116 : decode cX8_best 116 = .ok (.goto 5, 3) := by decide +kernel
theorem dX8_best_119 : decode cX8_best 119 = .ok (.iload 5, 2) := by decide +kernel
theorem dX8_best_121 : decode cX8_best 121 = .ok (.ireturn, 1) := by decide +kernel
theorem dX8_letting_0 : decode cX8_letting 0 = .ok (.iload_n 1, 1) := by decide +kernel
theorem dX8_letting_1 : decode cX8_letting 1 = .ok (.iconst 1, 1) := by decide +kernel
theorem dX8_letting_2 : decode cX8_letting 2 = .ok (.iconst 4, 1) := by decide +kernel
theorem dX8_letting_3 : decode cX8_letting 3 = .ok (.invokestatic 77, 3) := by decide +kernel
theorem dX8_letting_6 : decode cX8_letting 6 = .ok (.ifCond .eq 12, 3) := by decide +kernel
theorem dX8_letting_9 : decode cX8_letting 9 = .ok (.iload_n 2, 1) := by decide +kernel
theorem dX8_letting_10 : decode cX8_letting 10 = .ok (.iconst 0, 1) := by decide +kernel
theorem dX8_letting_11 : decode cX8_letting 11 = .ok (.iconst 1, 1) := by decide +kernel
theorem dX8_letting_12 : decode cX8_letting 12 = .ok (.invokestatic 77, 3) := by decide +kernel
theorem dX8_letting_15 : decode cX8_letting 15 = .ok (.ifCond .ne 6, 3) := by decide +kernel
theorem dX8_letting_18 : decode cX8_letting 18 = .ok (.ldc 81, 2) := by decide +kernel
theorem dX8_letting_20 : decode cX8_letting 20 = .ok (.ireturn, 1) := by decide +kernel
theorem dX8_letting_21 : decode cX8_letting 21 = .ok (.aload_n 0, 1) := by decide +kernel
theorem dX8_letting_22 : decode cX8_letting 22 = .ok (.getfield 10, 3) := by decide +kernel
theorem dX8_letting_25 : decode cX8_letting 25 = .ok (.getfield 82, 3) := by decide +kernel
theorem dX8_letting_28 : decode cX8_letting 28 = .ok (.ifCond .ne 6, 3) := by decide +kernel
theorem dX8_letting_31 : decode cX8_letting 31 = .ok (.ldc 188, 2) := by decide +kernel
theorem dX8_letting_33 : decode cX8_letting 33 = .ok (.ireturn, 1) := by decide +kernel
theorem dX8_letting_34 : decode cX8_letting 34 = .ok (.iconst 3, 1) := by decide +kernel
theorem dX8_letting_35 : decode cX8_letting 35 = .ok (.aload_n 0, 1) := by decide +kernel
theorem dX8_letting_36 : decode cX8_letting 36 = .ok (.getfield 10, 3) := by decide +kernel
theorem dX8_letting_39 : decode cX8_letting 39 = .ok (.getfield 82, 3) := by decide +kernel
theorem dX8_letting_42 : decode cX8_letting 42 = .ok (.invokestatic 151, 3) := by decide +kernel
theorem dX8_letting_45 : decode cX8_letting 45 = .ok (.istore_n 3, 1) := by decide +kernel
theorem dX8_letting_46 : decode cX8_letting 46 = .ok (.iconst 1, 1) := by decide +kernel
theorem dX8_letting_47 : decode cX8_letting 47 = .ok (.iconst 3, 1) := by decide +kernel
theorem dX8_letting_48 : decode cX8_letting 48 = .ok (.iload_n 3, 1) := by decide +kernel
theorem dX8_letting_49 : decode cX8_letting 49 = .ok (.imul, 1) := by decide +kernel
theorem dX8_letting_50 : decode cX8_letting 50 = .ok (.ishl, 1) := by decide +kernel
theorem dX8_letting_51 : decode cX8_letting 51 = .ok (.istore 4, 2) := by decide +kernel
theorem dX8_letting_53 : decode cX8_letting 53 = .ok (.ldc 188, 2) := by decide +kernel
theorem dX8_letting_55 : decode cX8_letting 55 = .ok (.istore 5, 2) := by decide +kernel
theorem dX8_letting_57 : decode cX8_letting 57 = .ok (.iconst 0, 1) := by decide +kernel
theorem dX8_letting_58 : decode cX8_letting 58 = .ok (.istore 6, 2) := by decide +kernel
theorem dX8_letting_60 : decode cX8_letting 60 = .ok (.iconst 0, 1) := by decide +kernel
theorem dX8_letting_61 : decode cX8_letting 61 = .ok (.istore 7, 2) := by decide +kernel
theorem dX8_letting_63 : decode cX8_letting 63 = .ok (.iload 7, 2) := by decide +kernel
theorem dX8_letting_65 : decode cX8_letting 65 = .ok (.iload 4, 2) := by decide +kernel
theorem dX8_letting_67 : decode cX8_letting 67 = .ok (.if_icmp .ge 79, 3) := by decide +kernel
theorem dX8_letting_70 : decode cX8_letting 70 = .ok (.aload_n 0, 1) := by decide +kernel
theorem dX8_letting_71 : decode cX8_letting 71 = .ok (.invokevirtual 185, 3) := by decide +kernel
theorem dX8_letting_74 : decode cX8_letting 74 = .ok (.aload_n 0, 1) := by decide +kernel
theorem dX8_letting_75 : decode cX8_letting 75 = .ok (.getfield 16, 3) := by decide +kernel
theorem dX8_letting_78 : decode cX8_letting 78 = .ok (.iload 7, 2) := by decide +kernel
theorem dX8_letting_80 : decode cX8_letting 80 = .ok (.iload_n 3, 1) := by decide +kernel
theorem dX8_letting_81 : decode cX8_letting 81 = .ok (.invokevirtual 189, 3) := by decide +kernel
theorem dX8_letting_84 : decode cX8_letting 84 = .ok (.aload_n 0, 1) := by decide +kernel
theorem dX8_letting_85 : decode cX8_letting 85 = .ok (.getfield 16, 3) := by decide +kernel
theorem dX8_letting_88 : decode cX8_letting 88 = .ok (.invokevirtual 179, 3) := by decide +kernel
theorem dX8_letting_91 : decode cX8_letting 91 = .ok (.ifCond .eq 6, 3) := by decide +kernel
theorem dX8_letting_94 : decode cX8_letting 94 = .ok (.goto 46, 3) := by decide +kernel
theorem dX8_letting_97 : decode cX8_letting 97 = .ok (.aload_n 0, 1) := by decide +kernel
theorem dX8_letting_98 : decode cX8_letting 98 = .ok (.getfield 16, 3) := by decide +kernel
theorem dX8_letting_101 : decode cX8_letting 101 = .ok (.iload_n 1, 1) := by decide +kernel
theorem dX8_letting_102 : decode cX8_letting 102 = .ok (.aload_n 0, 1) := by decide +kernel
theorem dX8_letting_103 : decode cX8_letting 103 = .ok (.getfield 47, 3) := by decide +kernel
theorem dX8_letting_106 : decode cX8_letting 106 = .ok (.invokevirtual 169, 3) := by decide +kernel
theorem dX8_letting_109 : decode cX8_letting 109 = .ok (.aload_n 0, 1) := by decide +kernel
theorem dX8_letting_110 : decode cX8_letting 110 = .ok (.getfield 16, 3) := by decide +kernel
theorem dX8_letting_113 : decode cX8_letting 113 = .ok (.invokevirtual 173, 3) := by decide +kernel
theorem dX8_letting_116 : decode cX8_letting 116 = .ok (.istore 8, 2) := by decide +kernel
theorem dX8_letting_118 : decode cX8_letting 118 = .ok (.iload 5, 2) := by decide +kernel
theorem dX8_letting_120 : decode cX8_letting 120 = .ok (.ldc 188, 2) := by decide +kernel
theorem dX8_letting_122 : decode cX8_letting 122 = .ok (.if_icmp .eq 10, 3) := by decide +kernel
theorem dX8_letting_125 : decode cX8_letting 125 = .ok (.iload 8, 2) := by decide +kernel
theorem dX8_letting_127 : decode cX8_letting 127 = .ok (.iload 6, 2) := by decide +kernel
theorem dX8_letting_129 : decode cX8_letting 129 = .ok (.if_icmp .le 11, 3) := by decide +kernel
theorem dX8_letting_132 : decode cX8_letting 132 = .ok (.iload 7, 2) := by decide +kernel
theorem dX8_letting_134 : decode cX8_letting 134 = .ok (.istore 5, 2) := by decide +kernel
theorem dX8_letting_136 : decode cX8_letting 136 = .ok (.iload 8, 2) := by decide +kernel
theorem dX8_letting_138 : decode cX8_letting 138 = .ok (.istore 6, 2) := by decide +kernel
theorem dX8_letting_140 : decode cX8_letting 140 = .ok (.iinc 7 1, 3) := by decide +kernel
theorem dX8_letting_143 : decode cX8_letting 143 = .ok (.goto (-80), 3) := by decide +kernel
theorem dX8_letting_146 : decode cX8_letting 146 = .ok (.iload_n 2, 1) := by decide +kernel
theorem dX8_letting_147 : decode cX8_letting 147 = .ok (.ifCond .eq 10, 3) := by decide +kernel
theorem dX8_letting_150 : decode cX8_letting 150 = .ok (.iload 5, 2) := by decide +kernel
theorem dX8_letting_152 : decode cX8_letting 152 = .ok (.ldc 188, 2) := by decide +kernel
theorem dX8_letting_154 : decode cX8_letting 154 = .ok (.if_icmp .ne 8, 3) := by decide +kernel
theorem dX8_letting_157 : decode cX8_letting 157 = .ok (.iload 5, 2) := by decide +kernel
theorem dX8_letting_159 : decode cX8_letting 159 = .ok (.goto 5, 3) := by decide +kernel
theorem dX8_letting_162 : decode cX8_letting 162 = .ok (.iload 6, 2) := by decide +kernel
theorem dX8_letting_164 : decode cX8_letting 164 = .ok (.ireturn, 1) := by decide +kernel
theorem dX8_takes_0 : decode cX8_takes 0 = .ok (.iload_n 1, 1) := by decide +kernel
theorem dX8_takes_1 : decode cX8_takes 1 = .ok (.invokestatic 73, 3) := by decide +kernel
theorem dX8_takes_4 : decode cX8_takes 4 = .ok (.ifCond .eq 20, 3) := by decide +kernel
theorem dX8_takes_7 : decode cX8_takes 7 = .ok (.iload_n 2, 1) := by decide +kernel
theorem dX8_takes_8 : decode cX8_takes 8 = .ok (.invokestatic 136, 3) := by decide +kernel
theorem dX8_takes_11 : decode cX8_takes 11 = .ok (.ifCond .eq 13, 3) := by decide +kernel
theorem dX8_takes_14 : decode cX8_takes 14 = .ok (.iload_n 3, 1) := by decide +kernel
theorem dX8_takes_15 : decode cX8_takes 15 = .ok (.iconst 1, 1) := by decide +kernel
theorem dX8_takes_16 : decode cX8_takes 16 = .ok (.bipush 60, 2) := by decide +kernel
theorem dX8_takes_18 : decode cX8_takes 18 = .ok (.invokestatic 77, 3) := by decide +kernel
theorem dX8_takes_21 : decode cX8_takes 21 = .ok (.ifCond .ne 6, 3) := by decide +kernel
theorem dX8_takes_24 : decode cX8_takes 24 = .ok (.ldc 81, 2) := by decide +kernel
theorem dX8_takes_26 : decode cX8_takes 26 = .ok (.ireturn, 1) := by decide +kernel
theorem dX8_takes_27 : decode cX8_takes 27 = .ok (.aload_n 0, 1) := by decide +kernel
theorem dX8_takes_28 : decode cX8_takes 28 = .ok (.invokevirtual 185, 3) := by decide +kernel
theorem dX8_takes_31 : decode cX8_takes 31 = .ok (.aload_n 0, 1) := by decide +kernel
theorem dX8_takes_32 : decode cX8_takes 32 = .ok (.getfield 16, 3) := by decide +kernel
theorem dX8_takes_35 : decode cX8_takes 35 = .ok (.iload_n 3, 1) := by decide +kernel
theorem dX8_takes_36 : decode cX8_takes 36 = .ok (.aload_n 0, 1) := by decide +kernel
theorem dX8_takes_37 : decode cX8_takes 37 = .ok (.getfield 47, 3) := by decide +kernel
theorem dX8_takes_40 : decode cX8_takes 40 = .ok (.invokevirtual 169, 3) := by decide +kernel
theorem dX8_takes_43 : decode cX8_takes 43 = .ok (.aload_n 0, 1) := by decide +kernel
theorem dX8_takes_44 : decode cX8_takes 44 = .ok (.getfield 16, 3) := by decide +kernel
theorem dX8_takes_47 : decode cX8_takes 47 = .ok (.invokevirtual 173, 3) := by decide +kernel
theorem dX8_takes_50 : decode cX8_takes 50 = .ok (.istore 4, 2) := by decide +kernel
theorem dX8_takes_52 : decode cX8_takes 52 = .ok (.aload_n 0, 1) := by decide +kernel
theorem dX8_takes_53 : decode cX8_takes 53 = .ok (.invokevirtual 185, 3) := by decide +kernel
theorem dX8_takes_56 : decode cX8_takes 56 = .ok (.aload_n 0, 1) := by decide +kernel
theorem dX8_takes_57 : decode cX8_takes 57 = .ok (.getfield 16, 3) := by decide +kernel
theorem dX8_takes_60 : decode cX8_takes 60 = .ok (.iload_n 1, 1) := by decide +kernel
theorem dX8_takes_61 : decode cX8_takes 61 = .ok (.iload_n 2, 1) := by decide +kernel
theorem dX8_takes_62 : decode cX8_takes 62 = .ok (.bipush 10, 2) := by decide +kernel
theorem dX8_takes_64 : decode cX8_takes 64 = .ok (.invokevirtual 86, 3) := by decide +kernel
theorem dX8_takes_67 : decode cX8_takes 67 = .ok (.istore 5, 2) := by decide +kernel
theorem dX8_takes_69 : decode cX8_takes 69 = .ok (.aload_n 0, 1) := by decide +kernel
theorem dX8_takes_70 : decode cX8_takes 70 = .ok (.getfield 16, 3) := by decide +kernel
theorem dX8_takes_73 : decode cX8_takes 73 = .ok (.iload_n 3, 1) := by decide +kernel
theorem dX8_takes_74 : decode cX8_takes 74 = .ok (.aload_n 0, 1) := by decide +kernel
theorem dX8_takes_75 : decode cX8_takes 75 = .ok (.getfield 47, 3) := by decide +kernel
theorem dX8_takes_78 : decode cX8_takes 78 = .ok (.invokevirtual 169, 3) := by decide +kernel
theorem dX8_takes_81 : decode cX8_takes 81 = .ok (.aload_n 0, 1) := by decide +kernel
theorem dX8_takes_82 : decode cX8_takes 82 = .ok (.getfield 16, 3) := by decide +kernel
theorem dX8_takes_85 : decode cX8_takes 85 = .ok (.invokevirtual 173, 3) := by decide +kernel
theorem dX8_takes_88 : decode cX8_takes 88 = .ok (.aload_n 0, 1) := by decide +kernel
theorem dX8_takes_89 : decode cX8_takes 89 = .ok (.getfield 16, 3) := by decide +kernel
theorem dX8_takes_92 : decode cX8_takes 92 = .ok (.getfield 102, 3) := by decide +kernel
theorem dX8_takes_95 : decode cX8_takes 95 = .ok (.iload 5, 2) := by decide +kernel
theorem dX8_takes_97 : decode cX8_takes 97 = .ok (.iaload, 1) := by decide +kernel
theorem dX8_takes_98 : decode cX8_takes 98 = .ok (.isub, 1) := by decide +kernel
theorem dX8_takes_99 : decode cX8_takes 99 = .ok (.istore 6, 2) := by decide +kernel
theorem dX8_takes_101 : decode cX8_takes 101 = .ok (.iload 4, 2) := by decide +kernel
theorem dX8_takes_103 : decode cX8_takes 103 = .ok (.iload 6, 2) := by decide +kernel
theorem dX8_takes_105 : decode cX8_takes 105 = .ok (.isub, 1) := by decide +kernel
theorem dX8_takes_106 : decode cX8_takes 106 = .ok (.ireturn, 1) := by decide +kernel
theorem dX8_bestRent_0 : decode cX8_bestRent 0 = .ok (.iload_n 1, 1) := by decide +kernel
theorem dX8_bestRent_1 : decode cX8_bestRent 1 = .ok (.iconst 1, 1) := by decide +kernel
theorem dX8_bestRent_2 : decode cX8_bestRent 2 = .ok (.bipush 60, 2) := by decide +kernel
theorem dX8_bestRent_4 : decode cX8_bestRent 4 = .ok (.invokestatic 77, 3) := by decide +kernel
theorem dX8_bestRent_7 : decode cX8_bestRent 7 = .ok (.ifCond .eq 12, 3) := by decide +kernel
theorem dX8_bestRent_10 : decode cX8_bestRent 10 = .ok (.iload_n 2, 1) := by decide +kernel
theorem dX8_bestRent_11 : decode cX8_bestRent 11 = .ok (.iconst 0, 1) := by decide +kernel
theorem dX8_bestRent_12 : decode cX8_bestRent 12 = .ok (.iconst 1, 1) := by decide +kernel
theorem dX8_bestRent_13 : decode cX8_bestRent 13 = .ok (.invokestatic 77, 3) := by decide +kernel
theorem dX8_bestRent_16 : decode cX8_bestRent 16 = .ok (.ifCond .ne 6, 3) := by decide +kernel
theorem dX8_bestRent_19 : decode cX8_bestRent 19 = .ok (.ldc 81, 2) := by decide +kernel
theorem dX8_bestRent_21 : decode cX8_bestRent 21 = .ok (.ireturn, 1) := by decide +kernel
theorem dX8_bestRent_22 : decode cX8_bestRent 22 = .ok (.ldc 188, 2) := by decide +kernel
theorem dX8_bestRent_24 : decode cX8_bestRent 24 = .ok (.istore_n 3, 1) := by decide +kernel
theorem dX8_bestRent_25 : decode cX8_bestRent 25 = .ok (.iconst 0, 1) := by decide +kernel
theorem dX8_bestRent_26 : decode cX8_bestRent 26 = .ok (.istore 4, 2) := by decide +kernel
theorem dX8_bestRent_28 : decode cX8_bestRent 28 = .ok (.iconst 0, 1) := by decide +kernel
theorem dX8_bestRent_29 : decode cX8_bestRent 29 = .ok (.istore 5, 2) := by decide +kernel
theorem dX8_bestRent_31 : decode cX8_bestRent 31 = .ok (.iload 5, 2) := by decide +kernel
theorem dX8_bestRent_33 : decode cX8_bestRent 33 = .ok (.bipush 9, 2) := by decide +kernel
theorem dX8_bestRent_35 : decode cX8_bestRent 35 = .ok (.if_icmp .gt 77, 3) := by decide +kernel
theorem dX8_bestRent_38 : decode cX8_bestRent 38 = .ok (.aload_n 0, 1) := by decide +kernel
theorem dX8_bestRent_39 : decode cX8_bestRent 39 = .ok (.invokevirtual 185, 3) := by decide +kernel
theorem dX8_bestRent_42 : decode cX8_bestRent 42 = .ok (.aload_n 0, 1) := by decide +kernel
theorem dX8_bestRent_43 : decode cX8_bestRent 43 = .ok (.getfield 16, 3) := by decide +kernel
theorem dX8_bestRent_46 : decode cX8_bestRent 46 = .ok (.getfield 139, 3) := by decide +kernel
theorem dX8_bestRent_49 : decode cX8_bestRent 49 = .ok (.iload 5, 2) := by decide +kernel
theorem dX8_bestRent_51 : decode cX8_bestRent 51 = .ok (.invokestatic 193, 3) := by decide +kernel
theorem dX8_bestRent_54 : decode cX8_bestRent 54 = .ok (.aload_n 0, 1) := by decide +kernel
theorem dX8_bestRent_55 : decode cX8_bestRent 55 = .ok (.getfield 16, 3) := by decide +kernel
theorem dX8_bestRent_58 : decode cX8_bestRent 58 = .ok (.iload_n 1, 1) := by decide +kernel
theorem dX8_bestRent_59 : decode cX8_bestRent 59 = .ok (.aload_n 0, 1) := by decide +kernel
theorem dX8_bestRent_60 : decode cX8_bestRent 60 = .ok (.getfield 47, 3) := by decide +kernel
theorem dX8_bestRent_63 : decode cX8_bestRent 63 = .ok (.invokevirtual 169, 3) := by decide +kernel
theorem dX8_bestRent_66 : decode cX8_bestRent 66 = .ok (.aload_n 0, 1) := by decide +kernel
theorem dX8_bestRent_67 : decode cX8_bestRent 67 = .ok (.getfield 16, 3) := by decide +kernel
theorem dX8_bestRent_70 : decode cX8_bestRent 70 = .ok (.invokevirtual 199, 3) := by decide +kernel
theorem dX8_bestRent_73 : decode cX8_bestRent 73 = .ok (.ifCond .ne 33, 3) := by decide +kernel
theorem dX8_bestRent_76 : decode cX8_bestRent 76 = .ok (.iload_n 3, 1) := by decide +kernel
theorem dX8_bestRent_77 : decode cX8_bestRent 77 = .ok (.ldc 188, 2) := by decide +kernel
theorem dX8_bestRent_79 : decode cX8_bestRent 79 = .ok (.if_icmp .eq 15, 3) := by decide +kernel
theorem dX8_bestRent_82 : decode cX8_bestRent 82 = .ok (.aload_n 0, 1) := by decide +kernel
theorem dX8_bestRent_83 : decode cX8_bestRent 83 = .ok (.getfield 16, 3) := by decide +kernel
theorem dX8_bestRent_86 : decode cX8_bestRent 86 = .ok (.getfield 176, 3) := by decide +kernel
theorem dX8_bestRent_89 : decode cX8_bestRent 89 = .ok (.iload 4, 2) := by decide +kernel
theorem dX8_bestRent_91 : decode cX8_bestRent 91 = .ok (.if_icmp .le 15, 3) := by decide +kernel
theorem dX8_bestRent_94 : decode cX8_bestRent 94 = .ok (.iload 5, 2) := by decide +kernel
theorem dX8_bestRent_96 : decode cX8_bestRent 96 = .ok (.istore_n 3, 1) := by decide +kernel
theorem dX8_bestRent_97 : decode cX8_bestRent 97 = .ok (.aload_n 0, 1) := by decide +kernel
theorem dX8_bestRent_98 : decode cX8_bestRent 98 = .ok (.getfield 16, 3) := by decide +kernel
theorem dX8_bestRent_101 : decode cX8_bestRent 101 = .ok (.getfield 176, 3) := by decide +kernel
theorem dX8_bestRent_104 : decode cX8_bestRent 104 = .ok (.istore 4, 2) := by decide +kernel
theorem dX8_bestRent_106 : decode cX8_bestRent 106 = .ok (.iinc 5 1, 3) := by decide +kernel
theorem dX8_bestRent_109 : decode cX8_bestRent 109 = .ok (.goto (-78), 3) := by decide +kernel
theorem dX8_bestRent_112 : decode cX8_bestRent 112 = .ok (.iload_n 2, 1) := by decide +kernel
theorem dX8_bestRent_113 : decode cX8_bestRent 113 = .ok (.ifCond .eq 9, 3) := by decide +kernel
theorem dX8_bestRent_116 : decode cX8_bestRent 116 = .ok (.iload_n 3, 1) := by decide +kernel
theorem dX8_bestRent_117 : decode cX8_bestRent 117 = .ok (.ldc 188, 2) := by decide +kernel
theorem dX8_bestRent_119 : decode cX8_bestRent 119 = .ok (.if_icmp .ne 7, 3) := by decide +kernel
theorem dX8_bestRent_122 : decode cX8_bestRent 122 = .ok (.iload_n 3, 1) := by decide +kernel
theorem dX8_bestRent_123 : decode cX8_bestRent 123 = .ok (.goto 5, 3) := by decide +kernel
theorem dX8_bestRent_126 : decode cX8_bestRent 126 = .ok (.iload 4, 2) := by decide +kernel
theorem dX8_bestRent_128 : decode cX8_bestRent 128 = .ok (.ireturn, 1) := by decide +kernel
theorem dX8_mourned_0 : decode cX8_mourned 0 = .ok (.iload_n 1, 1) := by decide +kernel
theorem dX8_mourned_1 : decode cX8_mourned 1 = .ok (.iconst 1, 1) := by decide +kernel
theorem dX8_mourned_2 : decode cX8_mourned 2 = .ok (.bipush 60, 2) := by decide +kernel
theorem dX8_mourned_4 : decode cX8_mourned 4 = .ok (.invokestatic 77, 3) := by decide +kernel
theorem dX8_mourned_7 : decode cX8_mourned 7 = .ok (.ifCond .eq 12, 3) := by decide +kernel
theorem dX8_mourned_10 : decode cX8_mourned 10 = .ok (.iload_n 2, 1) := by decide +kernel
theorem dX8_mourned_11 : decode cX8_mourned 11 = .ok (.iconst 0, 1) := by decide +kernel
theorem dX8_mourned_12 : decode cX8_mourned 12 = .ok (.iconst 1, 1) := by decide +kernel
theorem dX8_mourned_13 : decode cX8_mourned 13 = .ok (.invokestatic 77, 3) := by decide +kernel
theorem dX8_mourned_16 : decode cX8_mourned 16 = .ok (.ifCond .ne 6, 3) := by decide +kernel
theorem dX8_mourned_19 : decode cX8_mourned 19 = .ok (.ldc 81, 2) := by decide +kernel
theorem dX8_mourned_21 : decode cX8_mourned 21 = .ok (.ireturn, 1) := by decide +kernel
theorem dX8_mourned_22 : decode cX8_mourned 22 = .ok (.iconst 0, 1) := by decide +kernel
theorem dX8_mourned_23 : decode cX8_mourned 23 = .ok (.istore_n 3, 1) := by decide +kernel
theorem dX8_mourned_24 : decode cX8_mourned 24 = .ok (.iconst 0, 1) := by decide +kernel
theorem dX8_mourned_25 : decode cX8_mourned 25 = .ok (.istore 4, 2) := by decide +kernel
theorem dX8_mourned_27 : decode cX8_mourned 27 = .ok (.iconst 0, 1) := by decide +kernel
theorem dX8_mourned_28 : decode cX8_mourned 28 = .ok (.istore 5, 2) := by decide +kernel
theorem dX8_mourned_30 : decode cX8_mourned 30 = .ok (.iload 5, 2) := by decide +kernel
theorem dX8_mourned_32 : decode cX8_mourned 32 = .ok (.bipush 8, 2) := by decide +kernel
theorem dX8_mourned_34 : decode cX8_mourned 34 = .ok (.if_icmp .ge 62, 3) := by decide +kernel
theorem dX8_mourned_37 : decode cX8_mourned 37 = .ok (.aload_n 0, 1) := by decide +kernel
theorem dX8_mourned_38 : decode cX8_mourned 38 = .ok (.invokevirtual 185, 3) := by decide +kernel
theorem dX8_mourned_41 : decode cX8_mourned 41 = .ok (.aload_n 0, 1) := by decide +kernel
theorem dX8_mourned_42 : decode cX8_mourned 42 = .ok (.getfield 16, 3) := by decide +kernel
theorem dX8_mourned_45 : decode cX8_mourned 45 = .ok (.iload 5, 2) := by decide +kernel
theorem dX8_mourned_47 : decode cX8_mourned 47 = .ok (.putfield 148, 3) := by decide +kernel
theorem dX8_mourned_50 : decode cX8_mourned 50 = .ok (.aload_n 0, 1) := by decide +kernel
theorem dX8_mourned_51 : decode cX8_mourned 51 = .ok (.getfield 16, 3) := by decide +kernel
theorem dX8_mourned_54 : decode cX8_mourned 54 = .ok (.iload_n 1, 1) := by decide +kernel
theorem dX8_mourned_55 : decode cX8_mourned 55 = .ok (.aload_n 0, 1) := by decide +kernel
theorem dX8_mourned_56 : decode cX8_mourned 56 = .ok (.getfield 47, 3) := by decide +kernel
theorem dX8_mourned_59 : decode cX8_mourned 59 = .ok (.invokevirtual 169, 3) := by decide +kernel
theorem dX8_mourned_62 : decode cX8_mourned 62 = .ok (.aload_n 0, 1) := by decide +kernel
theorem dX8_mourned_63 : decode cX8_mourned 63 = .ok (.getfield 16, 3) := by decide +kernel
theorem dX8_mourned_66 : decode cX8_mourned 66 = .ok (.invokevirtual 173, 3) := by decide +kernel
theorem dX8_mourned_69 : decode cX8_mourned 69 = .ok (.istore 6, 2) := by decide +kernel
theorem dX8_mourned_71 : decode cX8_mourned 71 = .ok (.iload 5, 2) := by decide +kernel
theorem dX8_mourned_73 : decode cX8_mourned 73 = .ok (.ifCond .eq 10, 3) := by decide +kernel
theorem dX8_mourned_76 : decode cX8_mourned 76 = .ok (.iload 6, 2) := by decide +kernel
theorem dX8_mourned_78 : decode cX8_mourned 78 = .ok (.iload 4, 2) := by decide +kernel
theorem dX8_mourned_80 : decode cX8_mourned 80 = .ok (.if_icmp .le 10, 3) := by decide +kernel
theorem dX8_mourned_83 : decode cX8_mourned 83 = .ok (.iload 5, 2) := by decide +kernel
theorem dX8_mourned_85 : decode cX8_mourned 85 = .ok (.istore_n 3, 1) := by decide +kernel
theorem dX8_mourned_86 : decode cX8_mourned 86 = .ok (.iload 6, 2) := by decide +kernel
theorem dX8_mourned_88 : decode cX8_mourned 88 = .ok (.istore 4, 2) := by decide +kernel
theorem dX8_mourned_90 : decode cX8_mourned 90 = .ok (.iinc 5 1, 3) := by decide +kernel
theorem dX8_mourned_93 : decode cX8_mourned 93 = .ok (.goto (-63), 3) := by decide +kernel
theorem dX8_mourned_96 : decode cX8_mourned 96 = .ok (.iload_n 2, 1) := by decide +kernel
theorem dX8_mourned_97 : decode cX8_mourned 97 = .ok (.ifCond .ne 7, 3) := by decide +kernel
theorem dX8_mourned_100 : decode cX8_mourned 100 = .ok (.iload_n 3, 1) := by decide +kernel
theorem dX8_mourned_101 : decode cX8_mourned 101 = .ok (.goto 5, 3) := by decide +kernel
theorem dX8_mourned_104 : decode cX8_mourned 104 = .ok (.iload 4, 2) := by decide +kernel
theorem dX8_mourned_106 : decode cX8_mourned 106 = .ok (.ireturn, 1) := by decide +kernel
theorem dX8_stood_0 : decode cX8_stood 0 = .ok (.iload_n 1, 1) := by decide +kernel
theorem dX8_stood_1 : decode cX8_stood 1 = .ok (.invokestatic 203, 3) := by decide +kernel
theorem dX8_stood_4 : decode cX8_stood 4 = .ok (.ifCond .eq 20, 3) := by decide +kernel
theorem dX8_stood_7 : decode cX8_stood 7 = .ok (.aload_n 0, 1) := by decide +kernel
theorem dX8_stood_8 : decode cX8_stood 8 = .ok (.iload_n 2, 1) := by decide +kernel
theorem dX8_stood_9 : decode cX8_stood 9 = .ok (.invokevirtual 90, 3) := by decide +kernel
theorem dX8_stood_12 : decode cX8_stood 12 = .ok (.ifCond .eq 12, 3) := by decide +kernel
theorem dX8_stood_15 : decode cX8_stood 15 = .ok (.iload_n 3, 1) := by decide +kernel
theorem dX8_stood_16 : decode cX8_stood 16 = .ok (.iconst 0, 1) := by decide +kernel
theorem dX8_stood_17 : decode cX8_stood 17 = .ok (.iconst 1, 1) := by decide +kernel
theorem dX8_stood_18 : decode cX8_stood 18 = .ok (.invokestatic 77, 3) := by decide +kernel
theorem dX8_stood_21 : decode cX8_stood 21 = .ok (.ifCond .ne 6, 3) := by decide +kernel
theorem dX8_stood_24 : decode cX8_stood 24 = .ok (.ldc 81, 2) := by decide +kernel
theorem dX8_stood_26 : decode cX8_stood 26 = .ok (.ireturn, 1) := by decide +kernel
theorem dX8_stood_27 : decode cX8_stood 27 = .ok (.aload_n 0, 1) := by decide +kernel
theorem dX8_stood_28 : decode cX8_stood 28 = .ok (.getfield 53, 3) := by decide +kernel
theorem dX8_stood_31 : decode cX8_stood 31 = .ok (.iload_n 1, 1) := by decide +kernel
theorem dX8_stood_32 : decode cX8_stood 32 = .ok (.aaload, 1) := by decide +kernel
theorem dX8_stood_33 : decode cX8_stood 33 = .ok (.invokevirtual 206, 3) := by decide +kernel
theorem dX8_stood_36 : decode cX8_stood 36 = .ok (.ifCond .eq 6, 3) := by decide +kernel
theorem dX8_stood_39 : decode cX8_stood 39 = .ok (.ldc 209, 2) := by decide +kernel
theorem dX8_stood_41 : decode cX8_stood 41 = .ok (.ireturn, 1) := by decide +kernel
theorem dX8_stood_42 : decode cX8_stood 42 = .ok (.iconst 0, 1) := by decide +kernel
theorem dX8_stood_43 : decode cX8_stood 43 = .ok (.istore 4, 2) := by decide +kernel
theorem dX8_stood_45 : decode cX8_stood 45 = .ok (.iconst 0, 1) := by decide +kernel
theorem dX8_stood_46 : decode cX8_stood 46 = .ok (.istore 5, 2) := by decide +kernel
theorem dX8_stood_48 : decode cX8_stood 48 = .ok (.iconst 0, 1) := by decide +kernel
theorem dX8_stood_49 : decode cX8_stood 49 = .ok (.istore 6, 2) := by decide +kernel
theorem dX8_stood_51 : decode cX8_stood 51 = .ok (.iload 6, 2) := by decide +kernel
theorem dX8_stood_53 : decode cX8_stood 53 = .ok (.bipush 8, 2) := by decide +kernel
theorem dX8_stood_55 : decode cX8_stood 55 = .ok (.if_icmp .gt 44, 3) := by decide +kernel
theorem dX8_stood_58 : decode cX8_stood 58 = .ok (.aload_n 0, 1) := by decide +kernel
theorem dX8_stood_59 : decode cX8_stood 59 = .ok (.aload_n 0, 1) := by decide +kernel
theorem dX8_stood_60 : decode cX8_stood 60 = .ok (.getfield 53, 3) := by decide +kernel
theorem dX8_stood_63 : decode cX8_stood 63 = .ok (.iload_n 1, 1) := by decide +kernel
theorem dX8_stood_64 : decode cX8_stood 64 = .ok (.aaload, 1) := by decide +kernel
theorem dX8_stood_65 : decode cX8_stood 65 = .ok (.iload_n 2, 1) := by decide +kernel
theorem dX8_stood_66 : decode cX8_stood 66 = .ok (.iload 6, 2) := by decide +kernel
theorem dX8_stood_68 : decode cX8_stood 68 = .ok (.invokevirtual 210, 3) := by decide +kernel
theorem dX8_stood_71 : decode cX8_stood 71 = .ok (.istore 7, 2) := by decide +kernel
theorem dX8_stood_73 : decode cX8_stood 73 = .ok (.iload 6, 2) := by decide +kernel
theorem dX8_stood_75 : decode cX8_stood 75 = .ok (.ifCond .eq 10, 3) := by decide +kernel
theorem dX8_stood_78 : decode cX8_stood 78 = .ok (.iload 7, 2) := by decide +kernel
theorem dX8_stood_80 : decode cX8_stood 80 = .ok (.iload 5, 2) := by decide +kernel
theorem dX8_stood_82 : decode cX8_stood 82 = .ok (.if_icmp .ge 11, 3) := by decide +kernel
theorem dX8_stood_85 : decode cX8_stood 85 = .ok (.iload 6, 2) := by decide +kernel
theorem dX8_stood_87 : decode cX8_stood 87 = .ok (.istore 4, 2) := by decide +kernel
theorem dX8_stood_89 : decode cX8_stood 89 = .ok (.iload 7, 2) := by decide +kernel
theorem dX8_stood_91 : decode cX8_stood 91 = .ok (.istore 5, 2) := by decide +kernel
theorem dX8_stood_93 : decode cX8_stood 93 = .ok (.iinc 6 1, 3) := by decide +kernel
theorem dX8_stood_96 : decode cX8_stood 96 = .ok (.goto (-45), 3) := by decide +kernel
theorem dX8_stood_99 : decode cX8_stood 99 = .ok (.iload_n 3, 1) := by decide +kernel
theorem dX8_stood_100 : decode cX8_stood 100 = .ok (.ifCond .ne 8, 3) := by decide +kernel
theorem dX8_stood_103 : decode cX8_stood 103 = .ok (.iload 4, 2) := by decide +kernel
theorem dX8_stood_105 : decode cX8_stood 105 = .ok (.goto 5, 3) := by decide +kernel
theorem dX8_stood_108 : decode cX8_stood 108 = .ok (.iload 5, 2) := by decide +kernel
theorem dX8_stood_110 : decode cX8_stood 110 = .ok (.ireturn, 1) := by decide +kernel
theorem dX8_fee_0 : decode cX8_fee 0 = .ok (.aload_n 0, 1) := by decide +kernel
theorem dX8_fee_1 : decode cX8_fee 1 = .ok (.iconst 1, 1) := by decide +kernel
theorem dX8_fee_2 : decode cX8_fee 2 = .ok (.aload_n 0, 1) := by decide +kernel
theorem dX8_fee_3 : decode cX8_fee 3 = .ok (.getfield 10, 3) := by decide +kernel
theorem dX8_fee_6 : decode cX8_fee 6 = .ok (.getfield 117, 3) := by decide +kernel
theorem dX8_fee_9 : decode cX8_fee 9 = .ok (.invokevirtual 119, 3) := by decide +kernel
theorem dX8_fee_12 : decode cX8_fee 12 = .ok (.astore_n 1, 1) := by decide +kernel
theorem dX8_fee_13 : decode cX8_fee 13 = .ok (.aload_n 1, 1) := by decide +kernel
theorem dX8_fee_14 : decode cX8_fee 14 = .ok (.ifnonnull 13, 3) := by decide +kernel
theorem dX8_fee_17 : decode cX8_fee 17 = .ok (.aload_n 0, 1) := by decide +kernel
theorem dX8_fee_18 : decode cX8_fee 18 = .ok (.getfield 10, 3) := by decide +kernel
theorem dX8_fee_21 : decode cX8_fee 21 = .ok (.getfield 176, 3) := by decide +kernel
theorem dX8_fee_24 : decode cX8_fee 24 = .ok (.goto 22, 3) := by decide +kernel
theorem dX8_fee_27 : decode cX8_fee 27 = .ok (.aload_n 1, 1) := by decide +kernel
theorem dX8_fee_28 : decode cX8_fee 28 = .ok (.aload_n 0, 1) := by decide +kernel
theorem dX8_fee_29 : decode cX8_fee 29 = .ok (.getfield 10, 3) := by decide +kernel
theorem dX8_fee_32 : decode cX8_fee 32 = .ok (.getfield 176, 3) := by decide +kernel
theorem dX8_fee_35 : decode cX8_fee 35 = .ok (.aload_n 0, 1) := by decide +kernel
theorem dX8_fee_36 : decode cX8_fee 36 = .ok (.getfield 10, 3) := by decide +kernel
theorem dX8_fee_39 : decode cX8_fee 39 = .ok (.getfield 166, 3) := by decide +kernel
theorem dX8_fee_42 : decode cX8_fee 42 = .ok (.iconst 0, 1) := by decide +kernel
theorem dX8_fee_43 : decode cX8_fee 43 = .ok (.invokevirtual 214, 3) := by decide +kernel
theorem dX8_fee_46 : decode cX8_fee 46 = .ok (.ireturn, 1) := by decide +kernel
theorem dX8_fine_0 : decode cX8_fine 0 = .ok (.aload_n 0, 1) := by decide +kernel
theorem dX8_fine_1 : decode cX8_fine 1 = .ok (.iload_n 1, 1) := by decide +kernel
theorem dX8_fine_2 : decode cX8_fine 2 = .ok (.invokevirtual 90, 3) := by decide +kernel
theorem dX8_fine_5 : decode cX8_fine 5 = .ok (.ifCond .ne 6, 3) := by decide +kernel
theorem dX8_fine_8 : decode cX8_fine 8 = .ok (.ldc 81, 2) := by decide +kernel
theorem dX8_fine_10 : decode cX8_fine 10 = .ok (.ireturn, 1) := by decide +kernel
theorem dX8_fine_11 : decode cX8_fine 11 = .ok (.aload_n 0, 1) := by decide +kernel
theorem dX8_fine_12 : decode cX8_fine 12 = .ok (.getfield 10, 3) := by decide +kernel
theorem dX8_fine_15 : decode cX8_fine 15 = .ok (.getfield 102, 3) := by decide +kernel
theorem dX8_fine_18 : decode cX8_fine 18 = .ok (.iload_n 1, 1) := by decide +kernel
theorem dX8_fine_19 : decode cX8_fine 19 = .ok (.iaload, 1) := by decide +kernel
theorem dX8_fine_20 : decode cX8_fine 20 = .ok (.istore_n 2, 1) := by decide +kernel
theorem dX8_fine_21 : decode cX8_fine 21 = .ok (.aload_n 0, 1) := by decide +kernel
theorem dX8_fine_22 : decode cX8_fine 22 = .ok (.iconst 2, 1) := by decide +kernel
theorem dX8_fine_23 : decode cX8_fine 23 = .ok (.aload_n 0, 1) := by decide +kernel
theorem dX8_fine_24 : decode cX8_fine 24 = .ok (.getfield 10, 3) := by decide +kernel
theorem dX8_fine_27 : decode cX8_fine 27 = .ok (.getfield 117, 3) := by decide +kernel
theorem dX8_fine_30 : decode cX8_fine 30 = .ok (.invokevirtual 119, 3) := by decide +kernel
theorem dX8_fine_33 : decode cX8_fine 33 = .ok (.astore_n 3, 1) := by decide +kernel
theorem dX8_fine_34 : decode cX8_fine 34 = .ok (.aload_n 3, 1) := by decide +kernel
theorem dX8_fine_35 : decode cX8_fine 35 = .ok (.ifnonnull 7, 3) := by decide +kernel
theorem dX8_fine_38 : decode cX8_fine 38 = .ok (.iload_n 2, 1) := by decide +kernel
theorem dX8_fine_39 : decode cX8_fine 39 = .ok (.goto 18, 3) := by decide +kernel
theorem dX8_fine_42 : decode cX8_fine 42 = .ok (.aload_n 3, 1) := by decide +kernel
theorem dX8_fine_43 : decode cX8_fine 43 = .ok (.iload_n 2, 1) := by decide +kernel
theorem dX8_fine_44 : decode cX8_fine 44 = .ok (.aload_n 0, 1) := by decide +kernel
theorem dX8_fine_45 : decode cX8_fine 45 = .ok (.getfield 10, 3) := by decide +kernel
theorem dX8_fine_48 : decode cX8_fine 48 = .ok (.getfield 105, 3) := by decide +kernel
theorem dX8_fine_51 : decode cX8_fine 51 = .ok (.iload_n 1, 1) := by decide +kernel
theorem dX8_fine_52 : decode cX8_fine 52 = .ok (.iaload, 1) := by decide +kernel
theorem dX8_fine_53 : decode cX8_fine 53 = .ok (.iconst 0, 1) := by decide +kernel
theorem dX8_fine_54 : decode cX8_fine 54 = .ok (.invokevirtual 214, 3) := by decide +kernel
theorem dX8_fine_57 : decode cX8_fine 57 = .ok (.ireturn, 1) := by decide +kernel
theorem dX8_feed_0 : decode cX8_feed 0 = .ok (.aload_n 0, 1) := by decide +kernel
theorem dX8_feed_1 : decode cX8_feed 1 = .ok (.getfield 37, 3) := by decide +kernel
theorem dX8_feed_4 : decode cX8_feed 4 = .ok (.getfield 217, 3) := by decide +kernel
theorem dX8_feed_7 : decode cX8_feed 7 = .ok (.bipush 12, 2) := by decide +kernel
theorem dX8_feed_9 : decode cX8_feed 9 = .ok (.iadd, 1) := by decide +kernel
theorem dX8_feed_10 : decode cX8_feed 10 = .ok (.bipush 96, 2) := by decide +kernel
theorem dX8_feed_12 : decode cX8_feed 12 = .ok (.if_icmp .le 6, 3) := by decide +kernel
theorem dX8_feed_15 : decode cX8_feed 15 = .ok (.ldc 85, 2) := by decide +kernel
theorem dX8_feed_17 : decode cX8_feed 17 = .ok (.ireturn, 1) := by decide +kernel
theorem dX8_feed_18 : decode cX8_feed 18 = .ok (.aload_n 0, 1) := by decide +kernel
theorem dX8_feed_19 : decode cX8_feed 19 = .ok (.getfield 37, 3) := by decide +kernel
theorem dX8_feed_22 : decode cX8_feed 22 = .ok (.iload_n 1, 1) := by decide +kernel
theorem dX8_feed_23 : decode cX8_feed 23 = .ok (.invokevirtual 220, 3) := by decide +kernel
theorem dX8_feed_26 : decode cX8_feed 26 = .ok (.aload_n 0, 1) := by decide +kernel
theorem dX8_feed_27 : decode cX8_feed 27 = .ok (.getfield 37, 3) := by decide +kernel
theorem dX8_feed_30 : decode cX8_feed 30 = .ok (.iload_n 2, 1) := by decide +kernel
theorem dX8_feed_31 : decode cX8_feed 31 = .ok (.invokevirtual 220, 3) := by decide +kernel
theorem dX8_feed_34 : decode cX8_feed 34 = .ok (.aload_n 0, 1) := by decide +kernel
theorem dX8_feed_35 : decode cX8_feed 35 = .ok (.getfield 37, 3) := by decide +kernel
theorem dX8_feed_38 : decode cX8_feed 38 = .ok (.iload_n 3, 1) := by decide +kernel
theorem dX8_feed_39 : decode cX8_feed 39 = .ok (.invokevirtual 220, 3) := by decide +kernel
theorem dX8_feed_42 : decode cX8_feed 42 = .ok (.aload_n 0, 1) := by decide +kernel
theorem dX8_feed_43 : decode cX8_feed 43 = .ok (.getfield 37, 3) := by decide +kernel
theorem dX8_feed_46 : decode cX8_feed 46 = .ok (.getfield 217, 3) := by decide +kernel
theorem dX8_feed_49 : decode cX8_feed 49 = .ok (.ireturn, 1) := by decide +kernel
theorem dX8_trim_0 : decode cX8_trim 0 = .ok (.iload_n 1, 1) := by decide +kernel
theorem dX8_trim_1 : decode cX8_trim 1 = .ok (.iconst 0, 1) := by decide +kernel
theorem dX8_trim_2 : decode cX8_trim 2 = .ok (.aload_n 0, 1) := by decide +kernel
theorem dX8_trim_3 : decode cX8_trim 3 = .ok (.getfield 37, 3) := by decide +kernel
theorem dX8_trim_6 : decode cX8_trim 6 = .ok (.getfield 217, 3) := by decide +kernel
theorem dX8_trim_9 : decode cX8_trim 9 = .ok (.invokestatic 77, 3) := by decide +kernel
theorem dX8_trim_12 : decode cX8_trim 12 = .ok (.ifCond .ne 6, 3) := by decide +kernel
theorem dX8_trim_15 : decode cX8_trim 15 = .ok (.ldc 81, 2) := by decide +kernel
theorem dX8_trim_17 : decode cX8_trim 17 = .ok (.ireturn, 1) := by decide +kernel
theorem dX8_trim_18 : decode cX8_trim 18 = .ok (.aload_n 0, 1) := by decide +kernel
theorem dX8_trim_19 : decode cX8_trim 19 = .ok (.getfield 37, 3) := by decide +kernel
theorem dX8_trim_22 : decode cX8_trim 22 = .ok (.iload_n 1, 1) := by decide +kernel
theorem dX8_trim_23 : decode cX8_trim 23 = .ok (.putfield 217, 3) := by decide +kernel
theorem dX8_trim_26 : decode cX8_trim 26 = .ok (.iload_n 1, 1) := by decide +kernel
theorem dX8_trim_27 : decode cX8_trim 27 = .ok (.ireturn, 1) := by decide +kernel
theorem dX8_text_0 : decode cX8_text 0 = .ok (.aload_n 0, 1) := by decide +kernel
theorem dX8_text_1 : decode cX8_text 1 = .ok (.getfield 29, 3) := by decide +kernel
theorem dX8_text_4 : decode cX8_text 4 = .ok (.invokevirtual 223, 3) := by decide +kernel
theorem dX8_text_7 : decode cX8_text 7 = .ok (.istore_n 1, 1) := by decide +kernel
theorem dX8_text_8 : decode cX8_text 8 = .ok (.aload_n 0, 1) := by decide +kernel
theorem dX8_text_9 : decode cX8_text 9 = .ok (.getfield 37, 3) := by decide +kernel
theorem dX8_text_12 : decode cX8_text 12 = .ok (.iconst 0, 1) := by decide +kernel
theorem dX8_text_13 : decode cX8_text 13 = .ok (.putfield 217, 3) := by decide +kernel
theorem dX8_text_16 : decode cX8_text 16 = .ok (.iload_n 1, 1) := by decide +kernel
theorem dX8_text_17 : decode cX8_text 17 = .ok (.ifCond .lt 8, 3) := by decide +kernel
theorem dX8_text_20 : decode cX8_text 20 = .ok (.bipush (-100), 2) := by decide +kernel
theorem dX8_text_22 : decode cX8_text 22 = .ok (.iload_n 1, 1) := by decide +kernel
theorem dX8_text_23 : decode cX8_text 23 = .ok (.isub, 1) := by decide +kernel
theorem dX8_text_24 : decode cX8_text 24 = .ok (.ireturn, 1) := by decide +kernel
theorem dX8_text_25 : decode cX8_text 25 = .ok (.aload_n 0, 1) := by decide +kernel
theorem dX8_text_26 : decode cX8_text 26 = .ok (.getfield 10, 3) := by decide +kernel
theorem dX8_text_29 : decode cX8_text 29 = .ok (.getfield 117, 3) := by decide +kernel
theorem dX8_text_32 : decode cX8_text 32 = .ok (.bipush 14, 2) := by decide +kernel
theorem dX8_text_34 : decode cX8_text 34 = .ok (.if_icmp .lt 6, 3) := by decide +kernel
theorem dX8_text_37 : decode cX8_text 37 = .ok (.ldc 85, 2) := by decide +kernel
theorem dX8_text_39 : decode cX8_text 39 = .ok (.ireturn, 1) := by decide +kernel
theorem dX8_text_40 : decode cX8_text 40 = .ok (.aload_n 0, 1) := by decide +kernel
theorem dX8_text_41 : decode cX8_text 41 = .ok (.getfield 10, 3) := by decide +kernel
theorem dX8_text_44 : decode cX8_text 44 = .ok (.getfield 117, 3) := by decide +kernel
theorem dX8_text_47 : decode cX8_text 47 = .ok (.istore_n 2, 1) := by decide +kernel
theorem dX8_text_48 : decode cX8_text 48 = .ok (.aload_n 0, 1) := by decide +kernel
theorem dX8_text_49 : decode cX8_text 49 = .ok (.getfield 40, 3) := by decide +kernel
theorem dX8_text_52 : decode cX8_text 52 = .ok (.iload_n 2, 1) := by decide +kernel
theorem dX8_text_53 : decode cX8_text 53 = .ok (.aload_n 0, 1) := by decide +kernel
theorem dX8_text_54 : decode cX8_text 54 = .ok (.getfield 29, 3) := by decide +kernel
theorem dX8_text_57 : decode cX8_text 57 = .ok (.invokevirtual 226, 3) := by decide +kernel
theorem dX8_text_60 : decode cX8_text 60 = .ok (.aastore, 1) := by decide +kernel
theorem dX8_text_61 : decode cX8_text 61 = .ok (.aload_n 0, 1) := by decide +kernel
theorem dX8_text_62 : decode cX8_text 62 = .ok (.getfield 10, 3) := by decide +kernel
theorem dX8_text_65 : decode cX8_text 65 = .ok (.iload_n 2, 1) := by decide +kernel
theorem dX8_text_66 : decode cX8_text 66 = .ok (.iconst 1, 1) := by decide +kernel
theorem dX8_text_67 : decode cX8_text 67 = .ok (.iadd, 1) := by decide +kernel
theorem dX8_text_68 : decode cX8_text 68 = .ok (.putfield 117, 3) := by decide +kernel
theorem dX8_text_71 : decode cX8_text 71 = .ok (.iload_n 2, 1) := by decide +kernel
theorem dX8_text_72 : decode cX8_text 72 = .ok (.ireturn, 1) := by decide +kernel
theorem dX8_textTold_0 : decode cX8_textTold 0 = .ok (.iload_n 1, 1) := by decide +kernel
theorem dX8_textTold_1 : decode cX8_textTold 1 = .ok (.iconst 0, 1) := by decide +kernel
theorem dX8_textTold_2 : decode cX8_textTold 2 = .ok (.aload_n 0, 1) := by decide +kernel
theorem dX8_textTold_3 : decode cX8_textTold 3 = .ok (.getfield 10, 3) := by decide +kernel
theorem dX8_textTold_6 : decode cX8_textTold 6 = .ok (.getfield 117, 3) := by decide +kernel
theorem dX8_textTold_9 : decode cX8_textTold 9 = .ok (.iconst 1, 1) := by decide +kernel
theorem dX8_textTold_10 : decode cX8_textTold 10 = .ok (.isub, 1) := by decide +kernel
theorem dX8_textTold_11 : decode cX8_textTold 11 = .ok (.invokestatic 77, 3) := by decide +kernel
theorem dX8_textTold_14 : decode cX8_textTold 14 = .ok (.ifCond .eq 12, 3) := by decide +kernel
theorem dX8_textTold_17 : decode cX8_textTold 17 = .ok (.aload_n 0, 1) := by decide +kernel
theorem dX8_textTold_18 : decode cX8_textTold 18 = .ok (.getfield 40, 3) := by decide +kernel
theorem dX8_textTold_21 : decode cX8_textTold 21 = .ok (.iload_n 1, 1) := by decide +kernel
theorem dX8_textTold_22 : decode cX8_textTold 22 = .ok (.aaload, 1) := by decide +kernel
theorem dX8_textTold_23 : decode cX8_textTold 23 = .ok (.ifnonnull 6, 3) := by decide +kernel
theorem dX8_textTold_26 : decode cX8_textTold 26 = .ok (.ldc 81, 2) := by decide +kernel
theorem dX8_textTold_28 : decode cX8_textTold 28 = .ok (.ireturn, 1) := by decide +kernel
theorem dX8_textTold_29 : decode cX8_textTold 29 = .ok (.iload_n 2, 1) := by decide +kernel
theorem dX8_textTold_30 : decode cX8_textTold 30 = .ok (.lookupswitch 46 #[(0, 26), (1, 36)], 26) := by decide +kernel
theorem dX8_textTold_56 : decode cX8_textTold 56 = .ok (.aload_n 0, 1) := by decide +kernel
theorem dX8_textTold_57 : decode cX8_textTold 57 = .ok (.getfield 40, 3) := by decide +kernel
theorem dX8_textTold_60 : decode cX8_textTold 60 = .ok (.iload_n 1, 1) := by decide +kernel
theorem dX8_textTold_61 : decode cX8_textTold 61 = .ok (.aaload, 1) := by decide +kernel
theorem dX8_textTold_62 : decode cX8_textTold 62 = .ok (.getfield 230, 3) := by decide +kernel
theorem dX8_textTold_65 : decode cX8_textTold 65 = .ok (.ireturn, 1) := by decide +kernel
theorem dX8_textTold_66 : decode cX8_textTold 66 = .ok (.aload_n 0, 1) := by decide +kernel
theorem dX8_textTold_67 : decode cX8_textTold 67 = .ok (.getfield 40, 3) := by decide +kernel
theorem dX8_textTold_70 : decode cX8_textTold 70 = .ok (.iload_n 1, 1) := by decide +kernel
theorem dX8_textTold_71 : decode cX8_textTold 71 = .ok (.aaload, 1) := by decide +kernel
theorem dX8_textTold_72 : decode cX8_textTold 72 = .ok (.getfield 233, 3) := by decide +kernel
theorem dX8_textTold_75 : decode cX8_textTold 75 = .ok (.ireturn, 1) := by decide +kernel
theorem dX8_textTold_76 : decode cX8_textTold 76 = .ok (.ldc 81, 2) := by decide +kernel
theorem dX8_textTold_78 : decode cX8_textTold 78 = .ok (.ireturn, 1) := by decide +kernel
theorem dX8_why_0 : decode cX8_why 0 = .ok (.iload_n 1, 1) := by decide +kernel
theorem dX8_why_1 : decode cX8_why 1 = .ok (.iconst 0, 1) := by decide +kernel
theorem dX8_why_2 : decode cX8_why 2 = .ok (.iconst 2, 1) := by decide +kernel
theorem dX8_why_3 : decode cX8_why 3 = .ok (.invokestatic 77, 3) := by decide +kernel
theorem dX8_why_6 : decode cX8_why 6 = .ok (.ifCond .ne 6, 3) := by decide +kernel
theorem dX8_why_9 : decode cX8_why 9 = .ok (.ldc 81, 2) := by decide +kernel
theorem dX8_why_11 : decode cX8_why 11 = .ok (.ireturn, 1) := by decide +kernel
theorem dX8_why_12 : decode cX8_why 12 = .ok (.aload_n 0, 1) := by decide +kernel
theorem dX8_why_13 : decode cX8_why 13 = .ok (.iload_n 1, 1) := by decide +kernel
theorem dX8_why_14 : decode cX8_why 14 = .ok (.aload_n 0, 1) := by decide +kernel
theorem dX8_why_15 : decode cX8_why 15 = .ok (.getfield 10, 3) := by decide +kernel
theorem dX8_why_18 : decode cX8_why 18 = .ok (.getfield 117, 3) := by decide +kernel
theorem dX8_why_21 : decode cX8_why 21 = .ok (.invokevirtual 236, 3) := by decide +kernel
theorem dX8_why_24 : decode cX8_why 24 = .ok (.istore_n 2, 1) := by decide +kernel
theorem dX8_why_25 : decode cX8_why 25 = .ok (.iload_n 2, 1) := by decide +kernel
theorem dX8_why_26 : decode cX8_why 26 = .ok (.ifCond .ge 8, 3) := by decide +kernel
theorem dX8_why_29 : decode cX8_why 29 = .ok (.ldc 188, 2) := by decide +kernel
theorem dX8_why_31 : decode cX8_why 31 = .ok (.goto 4, 3) := by decide +kernel
theorem dX8_why_34 : decode cX8_why 34 = .ok (.iload_n 2, 1) := by decide +kernel
theorem dX8_why_35 : decode cX8_why 35 = .ok (.ireturn, 1) := by decide +kernel
theorem dX8_sheet_0 : decode cX8_sheet 0 = .ok (.iload_n 1, 1) := by decide +kernel
theorem dX8_sheet_1 : decode cX8_sheet 1 = .ok (.invokestatic 203, 3) := by decide +kernel
theorem dX8_sheet_4 : decode cX8_sheet 4 = .ok (.ifCond .eq 12, 3) := by decide +kernel
theorem dX8_sheet_7 : decode cX8_sheet 7 = .ok (.iload_n 2, 1) := by decide +kernel
theorem dX8_sheet_8 : decode cX8_sheet 8 = .ok (.iconst (-1), 1) := by decide +kernel
theorem dX8_sheet_9 : decode cX8_sheet 9 = .ok (.iconst 1, 1) := by decide +kernel
theorem dX8_sheet_10 : decode cX8_sheet 10 = .ok (.invokestatic 77, 3) := by decide +kernel
theorem dX8_sheet_13 : decode cX8_sheet 13 = .ok (.ifCond .ne 6, 3) := by decide +kernel
theorem dX8_sheet_16 : decode cX8_sheet 16 = .ok (.ldc 81, 2) := by decide +kernel
theorem dX8_sheet_18 : decode cX8_sheet 18 = .ok (.ireturn, 1) := by decide +kernel
theorem dX8_sheet_19 : decode cX8_sheet 19 = .ok (.iload_n 2, 1) := by decide +kernel
theorem dX8_sheet_20 : decode cX8_sheet 20 = .ok (.iconst (-1), 1) := by decide +kernel
theorem dX8_sheet_21 : decode cX8_sheet 21 = .ok (.if_icmp .ne 7, 3) := by decide +kernel
theorem dX8_sheet_24 : decode cX8_sheet 24 = .ok (.iconst 0, 1) := by decide +kernel
theorem dX8_sheet_25 : decode cX8_sheet 25 = .ok (.goto 4, 3) := by decide +kernel
theorem dX8_sheet_28 : decode cX8_sheet 28 = .ok (.iload_n 3, 1) := by decide +kernel
theorem dX8_sheet_29 : decode cX8_sheet 29 = .ok (.istore 4, 2) := by decide +kernel
theorem dX8_sheet_31 : decode cX8_sheet 31 = .ok (.iload 4, 2) := by decide +kernel
theorem dX8_sheet_33 : decode cX8_sheet 33 = .ok (.bipush 24, 2) := by decide +kernel
theorem dX8_sheet_35 : decode cX8_sheet 35 = .ok (.if_icmp .le 6, 3) := by decide +kernel
theorem dX8_sheet_38 : decode cX8_sheet 38 = .ok (.ldc 81, 2) := by decide +kernel
theorem dX8_sheet_40 : decode cX8_sheet 40 = .ok (.ireturn, 1) := by decide +kernel
theorem dX8_sheet_41 : decode cX8_sheet 41 = .ok (.iload 4, 2) := by decide +kernel
theorem dX8_sheet_43 : decode cX8_sheet 43 = .ok (.ifCond .ge 6, 3) := by decide +kernel
theorem dX8_sheet_46 : decode cX8_sheet 46 = .ok (.ldc 239, 2) := by decide +kernel
theorem dX8_sheet_48 : decode cX8_sheet 48 = .ok (.ireturn, 1) := by decide +kernel
theorem dX8_sheet_49 : decode cX8_sheet 49 = .ok (.aload_n 0, 1) := by decide +kernel
theorem dX8_sheet_50 : decode cX8_sheet 50 = .ok (.getfield 53, 3) := by decide +kernel
theorem dX8_sheet_53 : decode cX8_sheet 53 = .ok (.iload_n 1, 1) := by decide +kernel
theorem dX8_sheet_54 : decode cX8_sheet 54 = .ok (.aaload, 1) := by decide +kernel
theorem dX8_sheet_55 : decode cX8_sheet 55 = .ok (.iload_n 2, 1) := by decide +kernel
theorem dX8_sheet_56 : decode cX8_sheet 56 = .ok (.iload 4, 2) := by decide +kernel
theorem dX8_sheet_58 : decode cX8_sheet 58 = .ok (.invokevirtual 240, 3) := by decide +kernel
theorem dX8_sheet_61 : decode cX8_sheet 61 = .ok (.iload 4, 2) := by decide +kernel
theorem dX8_sheet_63 : decode cX8_sheet 63 = .ok (.ireturn, 1) := by decide +kernel
theorem dX8_mark_0 : decode cX8_mark 0 = .ok (.iload_n 1, 1) := by decide +kernel
theorem dX8_mark_1 : decode cX8_mark 1 = .ok (.invokestatic 203, 3) := by decide +kernel
theorem dX8_mark_4 : decode cX8_mark 4 = .ok (.ifCond .ne 6, 3) := by decide +kernel
theorem dX8_mark_7 : decode cX8_mark 7 = .ok (.ldc 81, 2) := by decide +kernel
theorem dX8_mark_9 : decode cX8_mark 9 = .ok (.ireturn, 1) := by decide +kernel
theorem dX8_mark_10 : decode cX8_mark 10 = .ok (.aload_n 0, 1) := by decide +kernel
theorem dX8_mark_11 : decode cX8_mark 11 = .ok (.getfield 53, 3) := by decide +kernel
theorem dX8_mark_14 : decode cX8_mark 14 = .ok (.iload_n 1, 1) := by decide +kernel
theorem dX8_mark_15 : decode cX8_mark 15 = .ok (.aaload, 1) := by decide +kernel
theorem dX8_mark_16 : decode cX8_mark 16 = .ok (.astore 4, 2) := by decide +kernel
theorem dX8_mark_18 : decode cX8_mark 18 = .ok (.aload 4, 2) := by decide +kernel
theorem dX8_mark_20 : decode cX8_mark 20 = .ok (.invokevirtual 206, 3) := by decide +kernel
theorem dX8_mark_23 : decode cX8_mark 23 = .ok (.ifCond .eq 6, 3) := by decide +kernel
theorem dX8_mark_26 : decode cX8_mark 26 = .ok (.ldc 209, 2) := by decide +kernel
theorem dX8_mark_28 : decode cX8_mark 28 = .ok (.ireturn, 1) := by decide +kernel
theorem dX8_mark_29 : decode cX8_mark 29 = .ok (.aload 4, 2) := by decide +kernel
theorem dX8_mark_31 : decode cX8_mark 31 = .ok (.iload_n 2, 1) := by decide +kernel
theorem dX8_mark_32 : decode cX8_mark 32 = .ok (.invokevirtual 243, 3) := by decide +kernel
theorem dX8_mark_35 : decode cX8_mark 35 = .ok (.ifCond .ne 6, 3) := by decide +kernel
theorem dX8_mark_38 : decode cX8_mark 38 = .ok (.ldc 246, 2) := by decide +kernel
theorem dX8_mark_40 : decode cX8_mark 40 = .ok (.ireturn, 1) := by decide +kernel
theorem dX8_mark_41 : decode cX8_mark 41 = .ok (.aload 4, 2) := by decide +kernel
theorem dX8_mark_43 : decode cX8_mark 43 = .ok (.getfield 247, 3) := by decide +kernel
theorem dX8_mark_46 : decode cX8_mark 46 = .ok (.ifCond .ne 12, 3) := by decide +kernel
theorem dX8_mark_49 : decode cX8_mark 49 = .ok (.iload_n 3, 1) := by decide +kernel
theorem dX8_mark_50 : decode cX8_mark 50 = .ok (.ldc 188, 2) := by decide +kernel
theorem dX8_mark_52 : decode cX8_mark 52 = .ok (.if_icmp .ne 6, 3) := by decide +kernel
theorem dX8_mark_55 : decode cX8_mark 55 = .ok (.ldc 135, 2) := by decide +kernel
theorem dX8_mark_57 : decode cX8_mark 57 = .ok (.ireturn, 1) := by decide +kernel
theorem dX8_mark_58 : decode cX8_mark 58 = .ok (.aload 4, 2) := by decide +kernel
theorem dX8_mark_60 : decode cX8_mark 60 = .ok (.getfield 247, 3) := by decide +kernel
theorem dX8_mark_63 : decode cX8_mark 63 = .ok (.iconst 1, 1) := by decide +kernel
theorem dX8_mark_64 : decode cX8_mark 64 = .ok (.if_icmp .ne 23, 3) := by decide +kernel
theorem dX8_mark_67 : decode cX8_mark 67 = .ok (.iload_n 3, 1) := by decide +kernel
theorem dX8_mark_68 : decode cX8_mark 68 = .ok (.ldc 188, 2) := by decide +kernel
theorem dX8_mark_70 : decode cX8_mark 70 = .ok (.if_icmp .eq 17, 3) := by decide +kernel
theorem dX8_mark_73 : decode cX8_mark 73 = .ok (.iload_n 3, 1) := by decide +kernel
theorem dX8_mark_74 : decode cX8_mark 74 = .ok (.ldc 250, 2) := by decide +kernel
theorem dX8_mark_76 : decode cX8_mark 76 = .ok (.ldc 251, 2) := by decide +kernel
theorem dX8_mark_78 : decode cX8_mark 78 = .ok (.invokestatic 77, 3) := by decide +kernel
theorem dX8_mark_81 : decode cX8_mark 81 = .ok (.ifCond .ne 6, 3) := by decide +kernel
theorem dX8_mark_84 : decode cX8_mark 84 = .ok (.ldc 81, 2) := by decide +kernel
theorem dX8_mark_86 : decode cX8_mark 86 = .ok (.ireturn, 1) := by decide +kernel
theorem dX8_mark_87 : decode cX8_mark 87 = .ok (.aload 4, 2) := by decide +kernel
theorem dX8_mark_89 : decode cX8_mark 89 = .ok (.getfield 252, 3) := by decide +kernel
theorem dX8_mark_92 : decode cX8_mark 92 = .ok (.iload_n 2, 1) := by decide +kernel
theorem dX8_mark_93 : decode cX8_mark 93 = .ok (.aload 4, 2) := by decide +kernel
theorem dX8_mark_95 : decode cX8_mark 95 = .ok (.getfield 247, 3) := by decide +kernel
theorem dX8_mark_98 : decode cX8_mark 98 = .ok (.ifCond .ne 8, 3) := by decide +kernel
theorem dX8_mark_101 : decode cX8_mark 101 = .ok (.iload_n 3, 1) := by decide +kernel
theorem dX8_mark_102 : decode cX8_mark 102 = .ok (.i2s, 1) := by decide +kernel
theorem dX8_mark_103 : decode cX8_mark 103 = .ok (.goto 4, 3) := by decide +kernel
theorem dX8_mark_106 : decode cX8_mark 106 = .ok (.iload_n 3, 1) := by decide +kernel
theorem dX8_mark_107 : decode cX8_mark 107 = .ok (.iastore, 1) := by decide +kernel
theorem dX8_mark_108 : decode cX8_mark 108 = .ok (.iconst 1, 1) := by decide +kernel
theorem dX8_mark_109 : decode cX8_mark 109 = .ok (.ireturn, 1) := by decide +kernel
theorem dX8_pour_0 : decode cX8_pour 0 = .ok (.iload_n 1, 1) := by decide +kernel
theorem dX8_pour_1 : decode cX8_pour 1 = .ok (.invokestatic 203, 3) := by decide +kernel
theorem dX8_pour_4 : decode cX8_pour 4 = .ok (.ifCond .ne 6, 3) := by decide +kernel
theorem dX8_pour_7 : decode cX8_pour 7 = .ok (.ldc 81, 2) := by decide +kernel
theorem dX8_pour_9 : decode cX8_pour 9 = .ok (.ireturn, 1) := by decide +kernel
theorem dX8_pour_10 : decode cX8_pour 10 = .ok (.aload_n 0, 1) := by decide +kernel
theorem dX8_pour_11 : decode cX8_pour 11 = .ok (.getfield 53, 3) := by decide +kernel
theorem dX8_pour_14 : decode cX8_pour 14 = .ok (.iload_n 1, 1) := by decide +kernel
theorem dX8_pour_15 : decode cX8_pour 15 = .ok (.aaload, 1) := by decide +kernel
theorem dX8_pour_16 : decode cX8_pour 16 = .ok (.astore_n 2, 1) := by decide +kernel
theorem dX8_pour_17 : decode cX8_pour 17 = .ok (.aload_n 2, 1) := by decide +kernel
theorem dX8_pour_18 : decode cX8_pour 18 = .ok (.invokevirtual 206, 3) := by decide +kernel
theorem dX8_pour_21 : decode cX8_pour 21 = .ok (.ifCond .eq 6, 3) := by decide +kernel
theorem dX8_pour_24 : decode cX8_pour 24 = .ok (.ldc 209, 2) := by decide +kernel
theorem dX8_pour_26 : decode cX8_pour 26 = .ok (.ireturn, 1) := by decide +kernel
theorem dX8_pour_27 : decode cX8_pour 27 = .ok (.iconst 0, 1) := by decide +kernel
theorem dX8_pour_28 : decode cX8_pour 28 = .ok (.istore_n 3, 1) := by decide +kernel
theorem dX8_pour_29 : decode cX8_pour 29 = .ok (.iconst 0, 1) := by decide +kernel
theorem dX8_pour_30 : decode cX8_pour 30 = .ok (.istore 4, 2) := by decide +kernel
theorem dX8_pour_32 : decode cX8_pour 32 = .ok (.iload 4, 2) := by decide +kernel
theorem dX8_pour_34 : decode cX8_pour 34 = .ok (.bipush 8, 2) := by decide +kernel
theorem dX8_pour_36 : decode cX8_pour 36 = .ok (.if_icmp .ge 75, 3) := by decide +kernel
theorem dX8_pour_39 : decode cX8_pour 39 = .ok (.iload 4, 2) := by decide +kernel
theorem dX8_pour_41 : decode cX8_pour 41 = .ok (.aload_n 2, 1) := by decide +kernel
theorem dX8_pour_42 : decode cX8_pour 42 = .ok (.getfield 255, 3) := by decide +kernel
theorem dX8_pour_45 : decode cX8_pour 45 = .ok (.if_icmp .ge 66, 3) := by decide +kernel
theorem dX8_pour_48 : decode cX8_pour 48 = .ok (.aload_n 2, 1) := by decide +kernel
theorem dX8_pour_49 : decode cX8_pour 49 = .ok (.iload 4, 2) := by decide +kernel
theorem dX8_pour_51 : decode cX8_pour 51 = .ok (.invokevirtual 256, 3) := by decide +kernel
theorem dX8_pour_54 : decode cX8_pour 54 = .ok (.ifCond .ne 6, 3) := by decide +kernel
theorem dX8_pour_57 : decode cX8_pour 57 = .ok (.goto 48, 3) := by decide +kernel
theorem dX8_pour_60 : decode cX8_pour 60 = .ok (.aload_n 2, 1) := by decide +kernel
theorem dX8_pour_61 : decode cX8_pour 61 = .ok (.getfield 252, 3) := by decide +kernel
theorem dX8_pour_64 : decode cX8_pour 64 = .ok (.iload 4, 2) := by decide +kernel
theorem dX8_pour_66 : decode cX8_pour 66 = .ok (.iaload, 1) := by decide +kernel
theorem dX8_pour_67 : decode cX8_pour 67 = .ok (.iconst 0, 1) := by decide +kernel
theorem dX8_pour_68 : decode cX8_pour 68 = .ok (.bipush 9, 2) := by decide +kernel
theorem dX8_pour_70 : decode cX8_pour 70 = .ok (.invokestatic 259, 3) := by decide +kernel
theorem dX8_pour_73 : decode cX8_pour 73 = .ok (.istore 5, 2) := by decide +kernel
theorem dX8_pour_75 : decode cX8_pour 75 = .ok (.aload_n 0, 1) := by decide +kernel
theorem dX8_pour_76 : decode cX8_pour 76 = .ok (.getfield 10, 3) := by decide +kernel
theorem dX8_pour_79 : decode cX8_pour 79 = .ok (.getfield 139, 3) := by decide +kernel
theorem dX8_pour_82 : decode cX8_pour 82 = .ok (.iload 4, 2) := by decide +kernel
theorem dX8_pour_84 : decode cX8_pour 84 = .ok (.iaload, 1) := by decide +kernel
theorem dX8_pour_85 : decode cX8_pour 85 = .ok (.iload 5, 2) := by decide +kernel
theorem dX8_pour_87 : decode cX8_pour 87 = .ok (.if_icmp .eq 18, 3) := by decide +kernel
theorem dX8_pour_90 : decode cX8_pour 90 = .ok (.aload_n 0, 1) := by decide +kernel
theorem dX8_pour_91 : decode cX8_pour 91 = .ok (.getfield 10, 3) := by decide +kernel
theorem dX8_pour_94 : decode cX8_pour 94 = .ok (.getfield 139, 3) := by decide +kernel
theorem dX8_pour_97 : decode cX8_pour 97 = .ok (.iload 4, 2) := by decide +kernel
theorem dX8_pour_99 : decode cX8_pour 99 = .ok (.iload 5, 2) := by decide +kernel
theorem dX8_pour_101 : decode cX8_pour 101 = .ok (.iastore, 1) := by decide +kernel
theorem dX8_pour_102 : decode cX8_pour 102 = .ok (.iinc 3 1, 3) := by decide +kernel
theorem dX8_pour_105 : decode cX8_pour 105 = .ok (.iinc 4 1, 3) := by decide +kernel
theorem dX8_pour_108 : decode cX8_pour 108 = .ok (.goto (-76), 3) := by decide +kernel
theorem dX8_pour_111 : decode cX8_pour 111 = .ok (.iload_n 3, 1) := by decide +kernel
theorem dX8_pour_112 : decode cX8_pour 112 = .ok (.ireturn, 1) := by decide +kernel
theorem dX8_reads_0 : decode cX8_reads 0 = .ok (.iload_n 1, 1) := by decide +kernel
theorem dX8_reads_1 : decode cX8_reads 1 = .ok (.invokestatic 203, 3) := by decide +kernel
theorem dX8_reads_4 : decode cX8_reads 4 = .ok (.ifCond .ne 6, 3) := by decide +kernel
theorem dX8_reads_7 : decode cX8_reads 7 = .ok (.ldc 81, 2) := by decide +kernel
theorem dX8_reads_9 : decode cX8_reads 9 = .ok (.ireturn, 1) := by decide +kernel
theorem dX8_reads_10 : decode cX8_reads 10 = .ok (.aload_n 0, 1) := by decide +kernel
theorem dX8_reads_11 : decode cX8_reads 11 = .ok (.getfield 53, 3) := by decide +kernel
theorem dX8_reads_14 : decode cX8_reads 14 = .ok (.iload_n 1, 1) := by decide +kernel
theorem dX8_reads_15 : decode cX8_reads 15 = .ok (.aaload, 1) := by decide +kernel
theorem dX8_reads_16 : decode cX8_reads 16 = .ok (.astore_n 2, 1) := by decide +kernel
theorem dX8_reads_17 : decode cX8_reads 17 = .ok (.aload_n 2, 1) := by decide +kernel
theorem dX8_reads_18 : decode cX8_reads 18 = .ok (.invokevirtual 206, 3) := by decide +kernel
theorem dX8_reads_21 : decode cX8_reads 21 = .ok (.ifCond .eq 6, 3) := by decide +kernel
theorem dX8_reads_24 : decode cX8_reads 24 = .ok (.ldc 209, 2) := by decide +kernel
theorem dX8_reads_26 : decode cX8_reads 26 = .ok (.ireturn, 1) := by decide +kernel
theorem dX8_reads_27 : decode cX8_reads 27 = .ok (.iconst 0, 1) := by decide +kernel
theorem dX8_reads_28 : decode cX8_reads 28 = .ok (.istore_n 3, 1) := by decide +kernel
theorem dX8_reads_29 : decode cX8_reads 29 = .ok (.iload_n 3, 1) := by decide +kernel
theorem dX8_reads_30 : decode cX8_reads 30 = .ok (.aload_n 2, 1) := by decide +kernel
theorem dX8_reads_31 : decode cX8_reads 31 = .ok (.getfield 255, 3) := by decide +kernel
theorem dX8_reads_34 : decode cX8_reads 34 = .ok (.if_icmp .ge 45, 3) := by decide +kernel
theorem dX8_reads_37 : decode cX8_reads 37 = .ok (.aload_n 2, 1) := by decide +kernel
theorem dX8_reads_38 : decode cX8_reads 38 = .ok (.iload_n 3, 1) := by decide +kernel
theorem dX8_reads_39 : decode cX8_reads 39 = .ok (.invokevirtual 256, 3) := by decide +kernel
theorem dX8_reads_42 : decode cX8_reads 42 = .ok (.ifCond .eq 31, 3) := by decide +kernel
theorem dX8_reads_45 : decode cX8_reads 45 = .ok (.aload_n 0, 1) := by decide +kernel
theorem dX8_reads_46 : decode cX8_reads 46 = .ok (.iload_n 3, 1) := by decide +kernel
theorem dX8_reads_47 : decode cX8_reads 47 = .ok (.invokevirtual 90, 3) := by decide +kernel
theorem dX8_reads_50 : decode cX8_reads 50 = .ok (.ifCond .eq 21, 3) := by decide +kernel
theorem dX8_reads_53 : decode cX8_reads 53 = .ok (.aload_n 2, 1) := by decide +kernel
theorem dX8_reads_54 : decode cX8_reads 54 = .ok (.getfield 252, 3) := by decide +kernel
theorem dX8_reads_57 : decode cX8_reads 57 = .ok (.iload_n 3, 1) := by decide +kernel
theorem dX8_reads_58 : decode cX8_reads 58 = .ok (.iaload, 1) := by decide +kernel
theorem dX8_reads_59 : decode cX8_reads 59 = .ok (.aload_n 0, 1) := by decide +kernel
theorem dX8_reads_60 : decode cX8_reads 60 = .ok (.getfield 10, 3) := by decide +kernel
theorem dX8_reads_63 : decode cX8_reads 63 = .ok (.getfield 102, 3) := by decide +kernel
theorem dX8_reads_66 : decode cX8_reads 66 = .ok (.iload_n 3, 1) := by decide +kernel
theorem dX8_reads_67 : decode cX8_reads 67 = .ok (.iaload, 1) := by decide +kernel
theorem dX8_reads_68 : decode cX8_reads 68 = .ok (.if_icmp .eq 5, 3) := by decide +kernel
theorem dX8_reads_71 : decode cX8_reads 71 = .ok (.iload_n 3, 1) := by decide +kernel
theorem dX8_reads_72 : decode cX8_reads 72 = .ok (.ireturn, 1) := by decide +kernel
theorem dX8_reads_73 : decode cX8_reads 73 = .ok (.iinc 3 1, 3) := by decide +kernel
theorem dX8_reads_76 : decode cX8_reads 76 = .ok (.goto (-47), 3) := by decide +kernel
theorem dX8_reads_79 : decode cX8_reads 79 = .ok (.ldc 188, 2) := by decide +kernel
theorem dX8_reads_81 : decode cX8_reads 81 = .ok (.ireturn, 1) := by decide +kernel
theorem dX8_copy_0 : decode cX8_copy 0 = .ok (.iload_n 1, 1) := by decide +kernel
theorem dX8_copy_1 : decode cX8_copy 1 = .ok (.invokestatic 203, 3) := by decide +kernel
theorem dX8_copy_4 : decode cX8_copy 4 = .ok (.ifCond .eq 10, 3) := by decide +kernel
theorem dX8_copy_7 : decode cX8_copy 7 = .ok (.iload_n 3, 1) := by decide +kernel
theorem dX8_copy_8 : decode cX8_copy 8 = .ok (.invokestatic 203, 3) := by decide +kernel
theorem dX8_copy_11 : decode cX8_copy 11 = .ok (.ifCond .ne 6, 3) := by decide +kernel
theorem dX8_copy_14 : decode cX8_copy 14 = .ok (.ldc 81, 2) := by decide +kernel
theorem dX8_copy_16 : decode cX8_copy 16 = .ok (.ireturn, 1) := by decide +kernel
theorem dX8_copy_17 : decode cX8_copy 17 = .ok (.aload_n 0, 1) := by decide +kernel
theorem dX8_copy_18 : decode cX8_copy 18 = .ok (.getfield 53, 3) := by decide +kernel
theorem dX8_copy_21 : decode cX8_copy 21 = .ok (.iload_n 1, 1) := by decide +kernel
theorem dX8_copy_22 : decode cX8_copy 22 = .ok (.aaload, 1) := by decide +kernel
theorem dX8_copy_23 : decode cX8_copy 23 = .ok (.astore 6, 2) := by decide +kernel
theorem dX8_copy_25 : decode cX8_copy 25 = .ok (.aload_n 0, 1) := by decide +kernel
theorem dX8_copy_26 : decode cX8_copy 26 = .ok (.getfield 53, 3) := by decide +kernel
theorem dX8_copy_29 : decode cX8_copy 29 = .ok (.iload_n 3, 1) := by decide +kernel
theorem dX8_copy_30 : decode cX8_copy 30 = .ok (.aaload, 1) := by decide +kernel
theorem dX8_copy_31 : decode cX8_copy 31 = .ok (.astore 7, 2) := by decide +kernel
theorem dX8_copy_33 : decode cX8_copy 33 = .ok (.aload 6, 2) := by decide +kernel
theorem dX8_copy_35 : decode cX8_copy 35 = .ok (.invokevirtual 206, 3) := by decide +kernel
theorem dX8_copy_38 : decode cX8_copy 38 = .ok (.ifCond .ne 11, 3) := by decide +kernel
theorem dX8_copy_41 : decode cX8_copy 41 = .ok (.aload 7, 2) := by decide +kernel
theorem dX8_copy_43 : decode cX8_copy 43 = .ok (.invokevirtual 206, 3) := by decide +kernel
theorem dX8_copy_46 : decode cX8_copy 46 = .ok (.ifCond .eq 6, 3) := by decide +kernel
theorem dX8_copy_49 : decode cX8_copy 49 = .ok (.ldc 209, 2) := by decide +kernel
theorem dX8_copy_51 : decode cX8_copy 51 = .ok (.ireturn, 1) := by decide +kernel
theorem dX8_copy_52 : decode cX8_copy 52 = .ok (.aload 6, 2) := by decide +kernel
theorem dX8_copy_54 : decode cX8_copy 54 = .ok (.getfield 247, 3) := by decide +kernel
theorem dX8_copy_57 : decode cX8_copy 57 = .ok (.aload 7, 2) := by decide +kernel
theorem dX8_copy_59 : decode cX8_copy 59 = .ok (.getfield 247, 3) := by decide +kernel
theorem dX8_copy_62 : decode cX8_copy 62 = .ok (.if_icmp .eq 6, 3) := by decide +kernel
theorem dX8_copy_65 : decode cX8_copy 65 = .ok (.ldc 135, 2) := by decide +kernel
theorem dX8_copy_67 : decode cX8_copy 67 = .ok (.ireturn, 1) := by decide +kernel
theorem dX8_copy_68 : decode cX8_copy 68 = .ok (.aload 6, 2) := by decide +kernel
theorem dX8_copy_70 : decode cX8_copy 70 = .ok (.iload_n 2, 1) := by decide +kernel
theorem dX8_copy_71 : decode cX8_copy 71 = .ok (.iload 5, 2) := by decide +kernel
theorem dX8_copy_73 : decode cX8_copy 73 = .ok (.invokevirtual 262, 3) := by decide +kernel
theorem dX8_copy_76 : decode cX8_copy 76 = .ok (.ifCond .eq 15, 3) := by decide +kernel
theorem dX8_copy_79 : decode cX8_copy 79 = .ok (.aload 7, 2) := by decide +kernel
theorem dX8_copy_81 : decode cX8_copy 81 = .ok (.iload 4, 2) := by decide +kernel
theorem dX8_copy_83 : decode cX8_copy 83 = .ok (.iload 5, 2) := by decide +kernel
theorem dX8_copy_85 : decode cX8_copy 85 = .ok (.invokevirtual 262, 3) := by decide +kernel
theorem dX8_copy_88 : decode cX8_copy 88 = .ok (.ifCond .ne 6, 3) := by decide +kernel
theorem dX8_copy_91 : decode cX8_copy 91 = .ok (.ldc 246, 2) := by decide +kernel
theorem dX8_copy_93 : decode cX8_copy 93 = .ok (.ireturn, 1) := by decide +kernel
theorem dX8_copy_94 : decode cX8_copy 94 = .ok (.aload 6, 2) := by decide +kernel
theorem dX8_copy_96 : decode cX8_copy 96 = .ok (.getfield 252, 3) := by decide +kernel
theorem dX8_copy_99 : decode cX8_copy 99 = .ok (.iload_n 2, 1) := by decide +kernel
theorem dX8_copy_100 : decode cX8_copy 100 = .ok (.aload 7, 2) := by decide +kernel
theorem dX8_copy_102 : decode cX8_copy 102 = .ok (.getfield 252, 3) := by decide +kernel
theorem dX8_copy_105 : decode cX8_copy 105 = .ok (.iload 4, 2) := by decide +kernel
theorem dX8_copy_107 : decode cX8_copy 107 = .ok (.iload 5, 2) := by decide +kernel
theorem dX8_copy_109 : decode cX8_copy 109 = .ok (.invokestatic 265, 3) := by decide +kernel
theorem dX8_copy_112 : decode cX8_copy 112 = .ok (.iload 5, 2) := by decide +kernel
theorem dX8_copy_114 : decode cX8_copy 114 = .ok (.ireturn, 1) := by decide +kernel
theorem dX8_lay_0 : decode cX8_lay 0 = .ok (.iload_n 1, 1) := by decide +kernel
theorem dX8_lay_1 : decode cX8_lay 1 = .ok (.invokestatic 271, 3) := by decide +kernel
theorem dX8_lay_4 : decode cX8_lay 4 = .ok (.ifCond .eq 12, 3) := by decide +kernel
theorem dX8_lay_7 : decode cX8_lay 7 = .ok (.iload_n 2, 1) := by decide +kernel
theorem dX8_lay_8 : decode cX8_lay 8 = .ok (.iconst 0, 1) := by decide +kernel
theorem dX8_lay_9 : decode cX8_lay 9 = .ok (.iconst 3, 1) := by decide +kernel
theorem dX8_lay_10 : decode cX8_lay 10 = .ok (.invokestatic 77, 3) := by decide +kernel
theorem dX8_lay_13 : decode cX8_lay 13 = .ok (.ifCond .ne 6, 3) := by decide +kernel
theorem dX8_lay_16 : decode cX8_lay 16 = .ok (.ldc 81, 2) := by decide +kernel
theorem dX8_lay_18 : decode cX8_lay 18 = .ok (.ireturn, 1) := by decide +kernel
theorem dX8_lay_19 : decode cX8_lay 19 = .ok (.iload_n 2, 1) := by decide +kernel
theorem dX8_lay_20 : decode cX8_lay 20 = .ok (.iconst 1, 1) := by decide +kernel
theorem dX8_lay_21 : decode cX8_lay 21 = .ok (.if_icmp .ne 11, 3) := by decide +kernel
theorem dX8_lay_24 : decode cX8_lay 24 = .ok (.aload_n 0, 1) := by decide +kernel
theorem dX8_lay_25 : decode cX8_lay 25 = .ok (.iload_n 3, 1) := by decide +kernel
theorem dX8_lay_26 : decode cX8_lay 26 = .ok (.invokevirtual 90, 3) := by decide +kernel
theorem dX8_lay_29 : decode cX8_lay 29 = .ok (.ifCond .eq 15, 3) := by decide +kernel
theorem dX8_lay_32 : decode cX8_lay 32 = .ok (.iload_n 2, 1) := by decide +kernel
theorem dX8_lay_33 : decode cX8_lay 33 = .ok (.iconst 2, 1) := by decide +kernel
theorem dX8_lay_34 : decode cX8_lay 34 = .ok (.if_icmp .ne 13, 3) := by decide +kernel
theorem dX8_lay_37 : decode cX8_lay 37 = .ok (.iload_n 3, 1) := by decide +kernel
theorem dX8_lay_38 : decode cX8_lay 38 = .ok (.invokestatic 203, 3) := by decide +kernel
theorem dX8_lay_41 : decode cX8_lay 41 = .ok (.ifCond .ne 6, 3) := by decide +kernel
theorem dX8_lay_44 : decode cX8_lay 44 = .ok (.ldc 81, 2) := by decide +kernel
theorem dX8_lay_46 : decode cX8_lay 46 = .ok (.ireturn, 1) := by decide +kernel
theorem dX8_lay_47 : decode cX8_lay 47 = .ok (.iload_n 2, 1) := by decide +kernel
theorem dX8_lay_48 : decode cX8_lay 48 = .ok (.iconst 2, 1) := by decide +kernel
theorem dX8_lay_49 : decode cX8_lay 49 = .ok (.if_icmp .ne 18, 3) := by decide +kernel
theorem dX8_lay_52 : decode cX8_lay 52 = .ok (.aload_n 0, 1) := by decide +kernel
theorem dX8_lay_53 : decode cX8_lay 53 = .ok (.getfield 53, 3) := by decide +kernel
theorem dX8_lay_56 : decode cX8_lay 56 = .ok (.iload_n 3, 1) := by decide +kernel
theorem dX8_lay_57 : decode cX8_lay 57 = .ok (.aaload, 1) := by decide +kernel
theorem dX8_lay_58 : decode cX8_lay 58 = .ok (.invokevirtual 206, 3) := by decide +kernel
theorem dX8_lay_61 : decode cX8_lay 61 = .ok (.ifCond .eq 6, 3) := by decide +kernel
theorem dX8_lay_64 : decode cX8_lay 64 = .ok (.ldc 209, 2) := by decide +kernel
theorem dX8_lay_66 : decode cX8_lay 66 = .ok (.ireturn, 1) := by decide +kernel
theorem dX8_lay_67 : decode cX8_lay 67 = .ok (.aload_n 0, 1) := by decide +kernel
theorem dX8_lay_68 : decode cX8_lay 68 = .ok (.getfield 59, 3) := by decide +kernel
theorem dX8_lay_71 : decode cX8_lay 71 = .ok (.iload_n 1, 1) := by decide +kernel
theorem dX8_lay_72 : decode cX8_lay 72 = .ok (.aaload, 1) := by decide +kernel
theorem dX8_lay_73 : decode cX8_lay 73 = .ok (.astore 4, 2) := by decide +kernel
theorem dX8_lay_75 : decode cX8_lay 75 = .ok (.aload 4, 2) := by decide +kernel
theorem dX8_lay_77 : decode cX8_lay 77 = .ok (.getfield 274, 3) := by decide +kernel
theorem dX8_lay_80 : decode cX8_lay 80 = .ok (.istore 5, 2) := by decide +kernel
theorem dX8_lay_82 : decode cX8_lay 82 = .ok (.aload 4, 2) := by decide +kernel
theorem dX8_lay_84 : decode cX8_lay 84 = .ok (.iload_n 2, 1) := by decide +kernel
theorem dX8_lay_85 : decode cX8_lay 85 = .ok (.putfield 274, 3) := by decide +kernel
theorem dX8_lay_88 : decode cX8_lay 88 = .ok (.iload_n 2, 1) := by decide +kernel
theorem dX8_lay_89 : decode cX8_lay 89 = .ok (.iconst 1, 1) := by decide +kernel
theorem dX8_lay_90 : decode cX8_lay 90 = .ok (.if_icmp .ne 34, 3) := by decide +kernel
theorem dX8_lay_93 : decode cX8_lay 93 = .ok (.aload 4, 2) := by decide +kernel
theorem dX8_lay_95 : decode cX8_lay 95 = .ok (.aload_n 0, 1) := by decide +kernel
theorem dX8_lay_96 : decode cX8_lay 96 = .ok (.getfield 10, 3) := by decide +kernel
theorem dX8_lay_99 : decode cX8_lay 99 = .ok (.getfield 93, 3) := by decide +kernel
theorem dX8_lay_102 : decode cX8_lay 102 = .ok (.iload_n 3, 1) := by decide +kernel
theorem dX8_lay_103 : decode cX8_lay 103 = .ok (.iaload, 1) := by decide +kernel
theorem dX8_lay_104 : decode cX8_lay 104 = .ok (.putfield 277, 3) := by decide +kernel
theorem dX8_lay_107 : decode cX8_lay 107 = .ok (.aload 4, 2) := by decide +kernel
theorem dX8_lay_109 : decode cX8_lay 109 = .ok (.aload_n 0, 1) := by decide +kernel
theorem dX8_lay_110 : decode cX8_lay 110 = .ok (.getfield 10, 3) := by decide +kernel
theorem dX8_lay_113 : decode cX8_lay 113 = .ok (.getfield 99, 3) := by decide +kernel
theorem dX8_lay_116 : decode cX8_lay 116 = .ok (.iload_n 3, 1) := by decide +kernel
theorem dX8_lay_117 : decode cX8_lay 117 = .ok (.iaload, 1) := by decide +kernel
theorem dX8_lay_118 : decode cX8_lay 118 = .ok (.putfield 280, 3) := by decide +kernel
theorem dX8_lay_121 : decode cX8_lay 121 = .ok (.goto 36, 3) := by decide +kernel
theorem dX8_lay_124 : decode cX8_lay 124 = .ok (.iload_n 2, 1) := by decide +kernel
theorem dX8_lay_125 : decode cX8_lay 125 = .ok (.iconst 2, 1) := by decide +kernel
theorem dX8_lay_126 : decode cX8_lay 126 = .ok (.if_icmp .ne 20, 3) := by decide +kernel
theorem dX8_lay_129 : decode cX8_lay 129 = .ok (.aload 4, 2) := by decide +kernel
theorem dX8_lay_131 : decode cX8_lay 131 = .ok (.getfield 283, 3) := by decide +kernel
theorem dX8_lay_134 : decode cX8_lay 134 = .ok (.aload_n 0, 1) := by decide +kernel
theorem dX8_lay_135 : decode cX8_lay 135 = .ok (.getfield 53, 3) := by decide +kernel
theorem dX8_lay_138 : decode cX8_lay 138 = .ok (.iload_n 3, 1) := by decide +kernel
theorem dX8_lay_139 : decode cX8_lay 139 = .ok (.aaload, 1) := by decide +kernel
theorem dX8_lay_140 : decode cX8_lay 140 = .ok (.invokevirtual 287, 3) := by decide +kernel
theorem dX8_lay_143 : decode cX8_lay 143 = .ok (.goto 14, 3) := by decide +kernel
theorem dX8_lay_146 : decode cX8_lay 146 = .ok (.iload_n 2, 1) := by decide +kernel
theorem dX8_lay_147 : decode cX8_lay 147 = .ok (.iconst 3, 1) := by decide +kernel
theorem dX8_lay_148 : decode cX8_lay 148 = .ok (.if_icmp .ne 9, 3) := by decide +kernel
theorem dX8_lay_151 : decode cX8_lay 151 = .ok (.aload 4, 2) := by decide +kernel
theorem dX8_lay_153 : decode cX8_lay 153 = .ok (.iload_n 3, 1) := by decide +kernel
theorem dX8_lay_154 : decode cX8_lay 154 = .ok (.putfield 291, 3) := by decide +kernel
theorem dX8_lay_157 : decode cX8_lay 157 = .ok (.iload 5, 2) := by decide +kernel
theorem dX8_lay_159 : decode cX8_lay 159 = .ok (.ireturn, 1) := by decide +kernel
theorem dX8_ask_0 : decode cX8_ask 0 = .ok (.iload_n 1, 1) := by decide +kernel
theorem dX8_ask_1 : decode cX8_ask 1 = .ok (.invokestatic 271, 3) := by decide +kernel
theorem dX8_ask_4 : decode cX8_ask 4 = .ok (.ifCond .eq 10, 3) := by decide +kernel
theorem dX8_ask_7 : decode cX8_ask 7 = .ok (.iload_n 2, 1) := by decide +kernel
theorem dX8_ask_8 : decode cX8_ask 8 = .ok (.invokestatic 73, 3) := by decide +kernel
theorem dX8_ask_11 : decode cX8_ask 11 = .ok (.ifCond .ne 6, 3) := by decide +kernel
theorem dX8_ask_14 : decode cX8_ask 14 = .ok (.ldc 81, 2) := by decide +kernel
theorem dX8_ask_16 : decode cX8_ask 16 = .ok (.ireturn, 1) := by decide +kernel
theorem dX8_ask_17 : decode cX8_ask 17 = .ok (.aload_n 0, 1) := by decide +kernel
theorem dX8_ask_18 : decode cX8_ask 18 = .ok (.getfield 59, 3) := by decide +kernel
theorem dX8_ask_21 : decode cX8_ask 21 = .ok (.iload_n 1, 1) := by decide +kernel
theorem dX8_ask_22 : decode cX8_ask 22 = .ok (.aaload, 1) := by decide +kernel
theorem dX8_ask_23 : decode cX8_ask 23 = .ok (.astore_n 3, 1) := by decide +kernel
theorem dX8_ask_24 : decode cX8_ask 24 = .ok (.aload_n 3, 1) := by decide +kernel
theorem dX8_ask_25 : decode cX8_ask 25 = .ok (.getfield 274, 3) := by decide +kernel
theorem dX8_ask_28 : decode cX8_ask 28 = .ok (.ifCond .ne 6, 3) := by decide +kernel
theorem dX8_ask_31 : decode cX8_ask 31 = .ok (.ldc 209, 2) := by decide +kernel
theorem dX8_ask_33 : decode cX8_ask 33 = .ok (.ireturn, 1) := by decide +kernel
theorem dX8_ask_34 : decode cX8_ask 34 = .ok (.aload_n 3, 1) := by decide +kernel
theorem dX8_ask_35 : decode cX8_ask 35 = .ok (.getfield 274, 3) := by decide +kernel
theorem dX8_ask_38 : decode cX8_ask 38 = .ok (.iconst 1, 1) := by decide +kernel
theorem dX8_ask_39 : decode cX8_ask 39 = .ok (.if_icmp .ne 14, 3) := by decide +kernel
theorem dX8_ask_42 : decode cX8_ask 42 = .ok (.aload_n 3, 1) := by decide +kernel
theorem dX8_ask_43 : decode cX8_ask 43 = .ok (.getfield 277, 3) := by decide +kernel
theorem dX8_ask_46 : decode cX8_ask 46 = .ok (.iload_n 2, 1) := by decide +kernel
theorem dX8_ask_47 : decode cX8_ask 47 = .ok (.invokestatic 131, 3) := by decide +kernel
theorem dX8_ask_50 : decode cX8_ask 50 = .ok (.ifCond .ne 6, 3) := by decide +kernel
theorem dX8_ask_53 : decode cX8_ask 53 = .ok (.ldc 135, 2) := by decide +kernel
theorem dX8_ask_55 : decode cX8_ask 55 = .ok (.ireturn, 1) := by decide +kernel
theorem dX8_ask_56 : decode cX8_ask 56 = .ok (.aload_n 3, 1) := by decide +kernel
theorem dX8_ask_57 : decode cX8_ask 57 = .ok (.getfield 277, 3) := by decide +kernel
theorem dX8_ask_60 : decode cX8_ask 60 = .ok (.aload_n 3, 1) := by decide +kernel
theorem dX8_ask_61 : decode cX8_ask 61 = .ok (.getfield 280, 3) := by decide +kernel
theorem dX8_ask_64 : decode cX8_ask 64 = .ok (.invokestatic 111, 3) := by decide +kernel
theorem dX8_ask_67 : decode cX8_ask 67 = .ok (.ireturn, 1) := by decide +kernel
theorem dX8_item_0 : decode cX8_item 0 = .ok (.iload_n 1, 1) := by decide +kernel
theorem dX8_item_1 : decode cX8_item 1 = .ok (.invokestatic 271, 3) := by decide +kernel
theorem dX8_item_4 : decode cX8_item 4 = .ok (.ifCond .ne 6, 3) := by decide +kernel
theorem dX8_item_7 : decode cX8_item 7 = .ok (.ldc 81, 2) := by decide +kernel
theorem dX8_item_9 : decode cX8_item 9 = .ok (.ireturn, 1) := by decide +kernel
theorem dX8_item_10 : decode cX8_item 10 = .ok (.aload_n 0, 1) := by decide +kernel
theorem dX8_item_11 : decode cX8_item 11 = .ok (.getfield 59, 3) := by decide +kernel
theorem dX8_item_14 : decode cX8_item 14 = .ok (.iload_n 1, 1) := by decide +kernel
theorem dX8_item_15 : decode cX8_item 15 = .ok (.aaload, 1) := by decide +kernel
theorem dX8_item_16 : decode cX8_item 16 = .ok (.astore_n 3, 1) := by decide +kernel
theorem dX8_item_17 : decode cX8_item 17 = .ok (.aload_n 3, 1) := by decide +kernel
theorem dX8_item_18 : decode cX8_item 18 = .ok (.getfield 274, 3) := by decide +kernel
theorem dX8_item_21 : decode cX8_item 21 = .ok (.ifCond .ne 6, 3) := by decide +kernel
theorem dX8_item_24 : decode cX8_item 24 = .ok (.ldc 209, 2) := by decide +kernel
theorem dX8_item_26 : decode cX8_item 26 = .ok (.ireturn, 1) := by decide +kernel
theorem dX8_item_27 : decode cX8_item 27 = .ok (.aload_n 3, 1) := by decide +kernel
theorem dX8_item_28 : decode cX8_item 28 = .ok (.getfield 274, 3) := by decide +kernel
theorem dX8_item_31 : decode cX8_item 31 = .ok (.iconst 2, 1) := by decide +kernel
theorem dX8_item_32 : decode cX8_item 32 = .ok (.if_icmp .eq 6, 3) := by decide +kernel
theorem dX8_item_35 : decode cX8_item 35 = .ok (.ldc 135, 2) := by decide +kernel
theorem dX8_item_37 : decode cX8_item 37 = .ok (.ireturn, 1) := by decide +kernel
theorem dX8_item_38 : decode cX8_item 38 = .ok (.aload_n 3, 1) := by decide +kernel
theorem dX8_item_39 : decode cX8_item 39 = .ok (.getfield 283, 3) := by decide +kernel
theorem dX8_item_42 : decode cX8_item 42 = .ok (.iload_n 2, 1) := by decide +kernel
theorem dX8_item_43 : decode cX8_item 43 = .ok (.invokevirtual 243, 3) := by decide +kernel
theorem dX8_item_46 : decode cX8_item 46 = .ok (.ifCond .ne 6, 3) := by decide +kernel
theorem dX8_item_49 : decode cX8_item 49 = .ok (.ldc 246, 2) := by decide +kernel
theorem dX8_item_51 : decode cX8_item 51 = .ok (.ireturn, 1) := by decide +kernel
theorem dX8_item_52 : decode cX8_item 52 = .ok (.aload_n 3, 1) := by decide +kernel
theorem dX8_item_53 : decode cX8_item 53 = .ok (.getfield 283, 3) := by decide +kernel
theorem dX8_item_56 : decode cX8_item 56 = .ok (.iload_n 2, 1) := by decide +kernel
theorem dX8_item_57 : decode cX8_item 57 = .ok (.invokevirtual 256, 3) := by decide +kernel
theorem dX8_item_60 : decode cX8_item 60 = .ok (.ifCond .eq 15, 3) := by decide +kernel
theorem dX8_item_63 : decode cX8_item 63 = .ok (.aload_n 3, 1) := by decide +kernel
theorem dX8_item_64 : decode cX8_item 64 = .ok (.getfield 283, 3) := by decide +kernel
theorem dX8_item_67 : decode cX8_item 67 = .ok (.getfield 252, 3) := by decide +kernel
theorem dX8_item_70 : decode cX8_item 70 = .ok (.iload_n 2, 1) := by decide +kernel
theorem dX8_item_71 : decode cX8_item 71 = .ok (.iaload, 1) := by decide +kernel
theorem dX8_item_72 : decode cX8_item 72 = .ok (.goto 5, 3) := by decide +kernel
theorem dX8_item_75 : decode cX8_item 75 = .ok (.ldc 135, 2) := by decide +kernel
theorem dX8_item_77 : decode cX8_item 77 = .ok (.ireturn, 1) := by decide +kernel
theorem dX8_rest_0 : decode cX8_rest 0 = .ok (.iload_n 1, 1) := by decide +kernel
theorem dX8_rest_1 : decode cX8_rest 1 = .ok (.invokestatic 271, 3) := by decide +kernel
theorem dX8_rest_4 : decode cX8_rest 4 = .ok (.ifCond .ne 6, 3) := by decide +kernel
theorem dX8_rest_7 : decode cX8_rest 7 = .ok (.ldc 81, 2) := by decide +kernel
theorem dX8_rest_9 : decode cX8_rest 9 = .ok (.ireturn, 1) := by decide +kernel
theorem dX8_rest_10 : decode cX8_rest 10 = .ok (.aload_n 0, 1) := by decide +kernel
theorem dX8_rest_11 : decode cX8_rest 11 = .ok (.getfield 59, 3) := by decide +kernel
theorem dX8_rest_14 : decode cX8_rest 14 = .ok (.iload_n 1, 1) := by decide +kernel
theorem dX8_rest_15 : decode cX8_rest 15 = .ok (.aaload, 1) := by decide +kernel
theorem dX8_rest_16 : decode cX8_rest 16 = .ok (.astore_n 3, 1) := by decide +kernel
theorem dX8_rest_17 : decode cX8_rest 17 = .ok (.aload_n 3, 1) := by decide +kernel
theorem dX8_rest_18 : decode cX8_rest 18 = .ok (.getfield 274, 3) := by decide +kernel
theorem dX8_rest_21 : decode cX8_rest 21 = .ok (.ifCond .ne 6, 3) := by decide +kernel
theorem dX8_rest_24 : decode cX8_rest 24 = .ok (.ldc 209, 2) := by decide +kernel
theorem dX8_rest_26 : decode cX8_rest 26 = .ok (.ireturn, 1) := by decide +kernel
theorem dX8_rest_27 : decode cX8_rest 27 = .ok (.aload_n 3, 1) := by decide +kernel
theorem dX8_rest_28 : decode cX8_rest 28 = .ok (.getfield 274, 3) := by decide +kernel
theorem dX8_rest_31 : decode cX8_rest 31 = .ok (.iconst 3, 1) := by decide +kernel
theorem dX8_rest_32 : decode cX8_rest 32 = .ok (.if_icmp .eq 6, 3) := by decide +kernel
theorem dX8_rest_35 : decode cX8_rest 35 = .ok (.ldc 135, 2) := by decide +kernel
theorem dX8_rest_37 : decode cX8_rest 37 = .ok (.ireturn, 1) := by decide +kernel
theorem dX8_rest_38 : decode cX8_rest 38 = .ok (.iload_n 2, 1) := by decide +kernel
theorem dX8_rest_39 : decode cX8_rest 39 = .ok (.ifCond .ne 9, 3) := by decide +kernel
theorem dX8_rest_42 : decode cX8_rest 42 = .ok (.ldc_w 294, 3) := by decide +kernel
theorem dX8_rest_45 : decode cX8_rest 45 = .ok (.goto 9, 3) := by decide +kernel
theorem dX8_rest_48 : decode cX8_rest 48 = .ok (.aload_n 3, 1) := by decide +kernel
theorem dX8_rest_49 : decode cX8_rest 49 = .ok (.getfield 291, 3) := by decide +kernel
theorem dX8_rest_52 : decode cX8_rest 52 = .ok (.iload_n 2, 1) := by decide +kernel
theorem dX8_rest_53 : decode cX8_rest 53 = .ok (.irem, 1) := by decide +kernel
theorem dX8_rest_54 : decode cX8_rest 54 = .ok (.ireturn, 1) := by decide +kernel
theorem dX8_tell_0 : decode cX8_tell 0 = .ok (.aload_n 0, 1) := by decide +kernel
theorem dX8_tell_1 : decode cX8_tell 1 = .ok (.getfield 67, 3) := by decide +kernel
theorem dX8_tell_4 : decode cX8_tell 4 = .ok (.bipush 60, 2) := by decide +kernel
theorem dX8_tell_6 : decode cX8_tell 6 = .ok (.if_icmp .lt 6, 3) := by decide +kernel
theorem dX8_tell_9 : decode cX8_tell 9 = .ok (.ldc 85, 2) := by decide +kernel
theorem dX8_tell_11 : decode cX8_tell 11 = .ok (.ireturn, 1) := by decide +kernel
theorem dX8_tell_12 : decode cX8_tell 12 = .ok (.aload_n 0, 1) := by decide +kernel
theorem dX8_tell_13 : decode cX8_tell 13 = .ok (.getfield 63, 3) := by decide +kernel
theorem dX8_tell_16 : decode cX8_tell 16 = .ok (.aload_n 0, 1) := by decide +kernel
theorem dX8_tell_17 : decode cX8_tell 17 = .ok (.getfield 67, 3) := by decide +kernel
theorem dX8_tell_20 : decode cX8_tell 20 = .ok (.iload_n 1, 1) := by decide +kernel
theorem dX8_tell_21 : decode cX8_tell 21 = .ok (.iastore, 1) := by decide +kernel
theorem dX8_tell_22 : decode cX8_tell 22 = .ok (.aload_n 0, 1) := by decide +kernel
theorem dX8_tell_23 : decode cX8_tell 23 = .ok (.dup, 1) := by decide +kernel
theorem dX8_tell_24 : decode cX8_tell 24 = .ok (.getfield 67, 3) := by decide +kernel
theorem dX8_tell_27 : decode cX8_tell 27 = .ok (.iconst 1, 1) := by decide +kernel
theorem dX8_tell_28 : decode cX8_tell 28 = .ok (.iadd, 1) := by decide +kernel
theorem dX8_tell_29 : decode cX8_tell 29 = .ok (.putfield 67, 3) := by decide +kernel
theorem dX8_tell_32 : decode cX8_tell 32 = .ok (.aload_n 0, 1) := by decide +kernel
theorem dX8_tell_33 : decode cX8_tell 33 = .ok (.getfield 67, 3) := by decide +kernel
theorem dX8_tell_36 : decode cX8_tell 36 = .ok (.ireturn, 1) := by decide +kernel
theorem dX8_check_0 : decode cX8_check 0 = .ok (.aload_n 0, 1) := by decide +kernel
theorem dX8_check_1 : decode cX8_check 1 = .ok (.getfield 67, 3) := by decide +kernel
theorem dX8_check_4 : decode cX8_check 4 = .ok (.istore_n 2, 1) := by decide +kernel
theorem dX8_check_5 : decode cX8_check 5 = .ok (.aload_n 0, 1) := by decide +kernel
theorem dX8_check_6 : decode cX8_check 6 = .ok (.iconst 0, 1) := by decide +kernel
theorem dX8_check_7 : decode cX8_check 7 = .ok (.putfield 67, 3) := by decide +kernel
theorem dX8_check_10 : decode cX8_check 10 = .ok (.iload_n 1, 1) := by decide +kernel
theorem dX8_check_11 : decode cX8_check 11 = .ok (.iconst 1, 1) := by decide +kernel
theorem dX8_check_12 : decode cX8_check 12 = .ok (.bipush 30, 2) := by decide +kernel
theorem dX8_check_14 : decode cX8_check 14 = .ok (.invokestatic 77, 3) := by decide +kernel
theorem dX8_check_17 : decode cX8_check 17 = .ok (.ifCond .ne 6, 3) := by decide +kernel
theorem dX8_check_20 : decode cX8_check 20 = .ok (.ldc 81, 2) := by decide +kernel
theorem dX8_check_22 : decode cX8_check 22 = .ok (.ireturn, 1) := by decide +kernel
theorem dX8_check_23 : decode cX8_check 23 = .ok (.aload_n 0, 1) := by decide +kernel
theorem dX8_check_24 : decode cX8_check 24 = .ok (.getfield 22, 3) := by decide +kernel
theorem dX8_check_27 : decode cX8_check 27 = .ok (.ifCond .ne 7, 3) := by decide +kernel
theorem dX8_check_30 : decode cX8_check 30 = .ok (.ldc_w 294, 3) := by decide +kernel
theorem dX8_check_33 : decode cX8_check 33 = .ok (.ireturn, 1) := by decide +kernel
theorem dX8_check_34 : decode cX8_check 34 = .ok (.aload_n 0, 1) := by decide +kernel
theorem dX8_check_35 : decode cX8_check 35 = .ok (.getfield 16, 3) := by decide +kernel
theorem dX8_check_38 : decode cX8_check 38 = .ok (.aload_n 0, 1) := by decide +kernel
theorem dX8_check_39 : decode cX8_check 39 = .ok (.getfield 19, 3) := by decide +kernel
theorem dX8_check_42 : decode cX8_check 42 = .ok (.invokevirtual 295, 3) := by decide +kernel
theorem dX8_check_45 : decode cX8_check 45 = .ok (.aload_n 0, 1) := by decide +kernel
theorem dX8_check_46 : decode cX8_check 46 = .ok (.getfield 47, 3) := by decide +kernel
theorem dX8_check_49 : decode cX8_check 49 = .ok (.aload_n 0, 1) := by decide +kernel
theorem dX8_check_50 : decode cX8_check 50 = .ok (.iconst 0, 1) := by decide +kernel
theorem dX8_check_51 : decode cX8_check 51 = .ok (.aload_n 0, 1) := by decide +kernel
theorem dX8_check_52 : decode cX8_check 52 = .ok (.getfield 19, 3) := by decide +kernel
theorem dX8_check_55 : decode cX8_check 55 = .ok (.getfield 117, 3) := by decide +kernel
theorem dX8_check_58 : decode cX8_check 58 = .ok (.invokevirtual 119, 3) := by decide +kernel
theorem dX8_check_61 : decode cX8_check 61 = .ok (.invokevirtual 123, 3) := by decide +kernel
theorem dX8_check_64 : decode cX8_check 64 = .ok (.iload_n 1, 1) := by decide +kernel
theorem dX8_check_65 : decode cX8_check 65 = .ok (.sipush 9999, 3) := by decide +kernel
theorem dX8_check_68 : decode cX8_check 68 = .ok (.aload_n 0, 1) := by decide +kernel
theorem dX8_check_69 : decode cX8_check 69 = .ok (.getfield 19, 3) := by decide +kernel
theorem dX8_check_72 : decode cX8_check 72 = .ok (.getfield 166, 3) := by decide +kernel
theorem dX8_check_75 : decode cX8_check 75 = .ok (.isub, 1) := by decide +kernel
theorem dX8_check_76 : decode cX8_check 76 = .ok (.invokestatic 151, 3) := by decide +kernel
theorem dX8_check_79 : decode cX8_check 79 = .ok (.istore_n 3, 1) := by decide +kernel
theorem dX8_check_80 : decode cX8_check 80 = .ok (.iconst 0, 1) := by decide +kernel
theorem dX8_check_81 : decode cX8_check 81 = .ok (.istore 4, 2) := by decide +kernel
theorem dX8_check_83 : decode cX8_check 83 = .ok (.iload 4, 2) := by decide +kernel
theorem dX8_check_85 : decode cX8_check 85 = .ok (.iload_n 3, 1) := by decide +kernel
theorem dX8_check_86 : decode cX8_check 86 = .ok (.if_icmp .ge 76, 3) := by decide +kernel
theorem dX8_check_89 : decode cX8_check 89 = .ok (.aload_n 0, 1) := by decide +kernel
theorem dX8_check_90 : decode cX8_check 90 = .ok (.getfield 16, 3) := by decide +kernel
theorem dX8_check_93 : decode cX8_check 93 = .ok (.aload_n 0, 1) := by decide +kernel
