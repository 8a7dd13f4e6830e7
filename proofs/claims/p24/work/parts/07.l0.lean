theorem dL_corridor_0 : decode cL_corridor 0 = .ok (.sipush 250, 3) := by decide +kernel
theorem dL_corridor_3 : decode cL_corridor 3 = .ok (.istore_n 1, 1) := by decide +kernel
theorem dL_corridor_4 : decode cL_corridor 4 = .ok (.bipush 41, 2) := by decide +kernel
theorem dL_corridor_6 : decode cL_corridor 6 = .ok (.istore_n 2, 1) := by decide +kernel
theorem dL_corridor_7 : decode cL_corridor 7 = .ok (.iload_n 2, 1) := by decide +kernel
theorem dL_corridor_8 : decode cL_corridor 8 = .ok (.iload_n 0, 1) := by decide +kernel
theorem dL_corridor_9 : decode cL_corridor 9 = .ok (.if_icmp .gt 18, 3) := by decide +kernel
theorem dL_corridor_12 : decode cL_corridor 12 = .ok (.iload_n 1, 1) := by decide +kernel
theorem dL_corridor_13 : decode cL_corridor 13 = .ok (.bipush 105, 2) := by decide +kernel
theorem dL_corridor_15 : decode cL_corridor 15 = .ok (.if_icmp .le 12, 3) := by decide +kernel
theorem dL_corridor_18 : decode cL_corridor 18 = .ok (.iinc 1 (-5), 3) := by decide +kernel
theorem dL_corridor_21 : decode cL_corridor 21 = .ok (.iinc 2 1, 3) := by decide +kernel
theorem dL_corridor_24 : decode cL_corridor 24 = .ok (.goto (-17), 3) := by decide +kernel
theorem dL_corridor_27 : decode cL_corridor 27 = .ok (.iload_n 1, 1) := by decide +kernel
theorem dL_corridor_28 : decode cL_corridor 28 = .ok (.ireturn, 1) := by decide +kernel
theorem dL_death_0 : decode cL_death 0 = .ok (.aload_n 1, 1) := by decide +kernel
theorem dL_death_1 : decode cL_death 1 = .ok (.iconst 1, 1) := by decide +kernel
theorem dL_death_2 : decode cL_death 2 = .ok (.iaload, 1) := by decide +kernel
theorem dL_death_3 : decode cL_death 3 = .ok (.i2l, 1) := by decide +kernel
theorem dL_death_4 : decode cL_death 4 = .ok (.lstore_n 3, 1) := by decide +kernel
theorem dL_death_5 : decode cL_death 5 = .ok (.aload_n 0, 1) := by decide +kernel
theorem dL_death_6 : decode cL_death 6 = .ok (.iconst 1, 1) := by decide +kernel
theorem dL_death_7 : decode cL_death 7 = .ok (.iaload, 1) := by decide +kernel
theorem dL_death_8 : decode cL_death 8 = .ok (.i2l, 1) := by decide +kernel
theorem dL_death_9 : decode cL_death 9 = .ok (.aload_n 0, 1) := by decide +kernel
theorem dL_death_10 : decode cL_death 10 = .ok (.iconst 2, 1) := by decide +kernel
theorem dL_death_11 : decode cL_death 11 = .ok (.iaload, 1) := by decide +kernel
theorem dL_death_12 : decode cL_death 12 = .ok (.iconst 1, 1) := by decide +kernel
theorem dL_death_13 : decode cL_death 13 = .ok (.if_icmp .ne 7, 3) := by decide +kernel
theorem dL_death_16 : decode cL_death 16 = .ok (.lload_n 3, 1) := by decide +kernel
theorem dL_death_17 : decode cL_death 17 = .ok (.goto 4, 3) := by decide +kernel
theorem dL_death_20 : decode cL_death 20 = .ok (.lconst 0, 1) := by decide +kernel
theorem dL_death_21 : decode cL_death 21 = .ok (.ladd, 1) := by decide +kernel
theorem dL_death_22 : decode cL_death 22 = .ok (.lstore 5, 2) := by decide +kernel
theorem dL_death_24 : decode cL_death 24 = .ok (.lload_n 3, 1) := by decide +kernel
theorem dL_death_25 : decode cL_death 25 = .ok (.aload_n 0, 1) := by decide +kernel
theorem dL_death_26 : decode cL_death 26 = .ok (.iconst 0, 1) := by decide +kernel
theorem dL_death_27 : decode cL_death 27 = .ok (.iaload, 1) := by decide +kernel
theorem dL_death_28 : decode cL_death 28 = .ok (.iload_n 2, 1) := by decide +kernel
theorem dL_death_29 : decode cL_death 29 = .ok (.bipush 12, 2) := by decide +kernel
theorem dL_death_31 : decode cL_death 31 = .ok (.idiv, 1) := by decide +kernel
theorem dL_death_32 : decode cL_death 32 = .ok (.iadd, 1) := by decide +kernel
theorem dL_death_33 : decode cL_death 33 = .ok (.invokestatic 7, 3) := by decide +kernel
theorem dL_death_36 : decode cL_death 36 = .ok (.i2l, 1) := by decide +kernel
theorem dL_death_37 : decode cL_death 37 = .ok (.lmul, 1) := by decide +kernel
theorem dL_death_38 : decode cL_death 38 = .ok (.ldc2_w 13, 3) := by decide +kernel
theorem dL_death_41 : decode cL_death 41 = .ok (.ldiv, 1) := by decide +kernel
theorem dL_death_42 : decode cL_death 42 = .ok (.lstore 7, 2) := by decide +kernel
theorem dL_death_44 : decode cL_death 44 = .ok (.lload 5, 2) := by decide +kernel
theorem dL_death_46 : decode cL_death 46 = .ok (.lload 7, 2) := by decide +kernel
theorem dL_death_48 : decode cL_death 48 = .ok (.lcmp, 1) := by decide +kernel
theorem dL_death_49 : decode cL_death 49 = .ok (.ifCond .le 8, 3) := by decide +kernel
theorem dL_death_52 : decode cL_death 52 = .ok (.lload 5, 2) := by decide +kernel
theorem dL_death_54 : decode cL_death 54 = .ok (.goto 5, 3) := by decide +kernel
theorem dL_death_57 : decode cL_death 57 = .ok (.lload 7, 2) := by decide +kernel
theorem dL_death_59 : decode cL_death 59 = .ok (.lreturn, 1) := by decide +kernel
theorem dL_charge_0 : decode cL_charge 0 = .ok (.aload_n 0, 1) := by decide +kernel
theorem dL_charge_1 : decode cL_charge 1 = .ok (.aload_n 1, 1) := by decide +kernel
theorem dL_charge_2 : decode cL_charge 2 = .ok (.iload_n 2, 1) := by decide +kernel
theorem dL_charge_3 : decode cL_charge 3 = .ok (.invokestatic 15, 3) := by decide +kernel
theorem dL_charge_6 : decode cL_charge 6 = .ok (.aload_n 1, 1) := by decide +kernel
theorem dL_charge_7 : decode cL_charge 7 = .ok (.iconst 1, 1) := by decide +kernel
theorem dL_charge_8 : decode cL_charge 8 = .ok (.iaload, 1) := by decide +kernel
theorem dL_charge_9 : decode cL_charge 9 = .ok (.i2l, 1) := by decide +kernel
theorem dL_charge_10 : decode cL_charge 10 = .ok (.lsub, 1) := by decide +kernel
theorem dL_charge_11 : decode cL_charge 11 = .ok (.lstore_n 3, 1) := by decide +kernel
theorem dL_charge_12 : decode cL_charge 12 = .ok (.bipush 10, 2) := by decide +kernel
theorem dL_charge_14 : decode cL_charge 14 = .ok (.istore 5, 2) := by decide +kernel
theorem dL_charge_16 : decode cL_charge 16 = .ok (.bipush 31, 2) := by decide +kernel
theorem dL_charge_18 : decode cL_charge 18 = .ok (.istore 6, 2) := by decide +kernel
theorem dL_charge_20 : decode cL_charge 20 = .ok (.iload 6, 2) := by decide +kernel
theorem dL_charge_22 : decode cL_charge 22 = .ok (.aload_n 0, 1) := by decide +kernel
theorem dL_charge_23 : decode cL_charge 23 = .ok (.iconst 0, 1) := by decide +kernel
theorem dL_charge_24 : decode cL_charge 24 = .ok (.iaload, 1) := by decide +kernel
theorem dL_charge_25 : decode cL_charge 25 = .ok (.iload_n 2, 1) := by decide +kernel
theorem dL_charge_26 : decode cL_charge 26 = .ok (.bipush 12, 2) := by decide +kernel
theorem dL_charge_28 : decode cL_charge 28 = .ok (.idiv, 1) := by decide +kernel
theorem dL_charge_29 : decode cL_charge 29 = .ok (.iadd, 1) := by decide +kernel
theorem dL_charge_30 : decode cL_charge 30 = .ok (.if_icmp .gt 12, 3) := by decide +kernel
theorem dL_charge_33 : decode cL_charge 33 = .ok (.iinc 5 2, 3) := by decide +kernel
theorem dL_charge_36 : decode cL_charge 36 = .ok (.iinc 6 1, 3) := by decide +kernel
theorem dL_charge_39 : decode cL_charge 39 = .ok (.goto (-19), 3) := by decide +kernel
theorem dL_charge_42 : decode cL_charge 42 = .ok (.sipush 500, 3) := by decide +kernel
theorem dL_charge_45 : decode cL_charge 45 = .ok (.lload_n 3, 1) := by decide +kernel
theorem dL_charge_46 : decode cL_charge 46 = .ok (.lconst 0, 1) := by decide +kernel
theorem dL_charge_47 : decode cL_charge 47 = .ok (.lcmp, 1) := by decide +kernel
theorem dL_charge_48 : decode cL_charge 48 = .ok (.ifCond .le 15, 3) := by decide +kernel
theorem dL_charge_51 : decode cL_charge 51 = .ok (.lload_n 3, 1) := by decide +kernel
theorem dL_charge_52 : decode cL_charge 52 = .ok (.iload 5, 2) := by decide +kernel
theorem dL_charge_54 : decode cL_charge 54 = .ok (.i2l, 1) := by decide +kernel
theorem dL_charge_55 : decode cL_charge 55 = .ok (.lmul, 1) := by decide +kernel
theorem dL_charge_56 : decode cL_charge 56 = .ok (.ldc2_w 19, 3) := by decide +kernel
theorem dL_charge_59 : decode cL_charge 59 = .ok (.ldiv, 1) := by decide +kernel
theorem dL_charge_60 : decode cL_charge 60 = .ok (.goto 4, 3) := by decide +kernel
theorem dL_charge_63 : decode cL_charge 63 = .ok (.lconst 0, 1) := by decide +kernel
theorem dL_charge_64 : decode cL_charge 64 = .ok (.l2i, 1) := by decide +kernel
theorem dL_charge_65 : decode cL_charge 65 = .ok (.iadd, 1) := by decide +kernel
theorem dL_charge_66 : decode cL_charge 66 = .ok (.ireturn, 1) := by decide +kernel
theorem dL_acts_0 : decode cL_acts 0 = .ok (.aload_n 1, 1) := by decide +kernel
theorem dL_acts_1 : decode cL_acts 1 = .ok (.iconst 1, 1) := by decide +kernel
theorem dL_acts_2 : decode cL_acts 2 = .ok (.iaload, 1) := by decide +kernel
theorem dL_acts_3 : decode cL_acts 3 = .ok (.aload_n 1, 1) := by decide +kernel
theorem dL_acts_4 : decode cL_acts 4 = .ok (.iconst 2, 1) := by decide +kernel
theorem dL_acts_5 : decode cL_acts 5 = .ok (.iaload, 1) := by decide +kernel
theorem dL_acts_6 : decode cL_acts 6 = .ok (.isub, 1) := by decide +kernel
theorem dL_acts_7 : decode cL_acts 7 = .ok (.istore 5, 2) := by decide +kernel
theorem dL_acts_9 : decode cL_acts 9 = .ok (.iload_n 2, 1) := by decide +kernel
theorem dL_acts_10 : decode cL_acts 10 = .ok (.ifCond .ne 83, 3) := by decide +kernel
theorem dL_acts_13 : decode cL_acts 13 = .ok (.aload_n 1, 1) := by decide +kernel
theorem dL_acts_14 : decode cL_acts 14 = .ok (.iconst 0, 1) := by decide +kernel
theorem dL_acts_15 : decode cL_acts 15 = .ok (.iaload, 1) := by decide +kernel
theorem dL_acts_16 : decode cL_acts 16 = .ok (.iconst 2, 1) := by decide +kernel
theorem dL_acts_17 : decode cL_acts 17 = .ok (.if_icmp .ge 76, 3) := by decide +kernel
theorem dL_acts_20 : decode cL_acts 20 = .ok (.iload_n 3, 1) := by decide +kernel
theorem dL_acts_21 : decode cL_acts 21 = .ok (.aload_n 1, 1) := by decide +kernel
theorem dL_acts_22 : decode cL_acts 22 = .ok (.iconst 3, 1) := by decide +kernel
theorem dL_acts_23 : decode cL_acts 23 = .ok (.iaload, 1) := by decide +kernel
theorem dL_acts_24 : decode cL_acts 24 = .ok (.isub, 1) := by decide +kernel
theorem dL_acts_25 : decode cL_acts 25 = .ok (.istore 6, 2) := by decide +kernel
theorem dL_acts_27 : decode cL_acts 27 = .ok (.aload_n 1, 1) := by decide +kernel
theorem dL_acts_28 : decode cL_acts 28 = .ok (.iconst 3, 1) := by decide +kernel
theorem dL_acts_29 : decode cL_acts 29 = .ok (.iload 6, 2) := by decide +kernel
theorem dL_acts_31 : decode cL_acts 31 = .ok (.ifCond .ge 9, 3) := by decide +kernel
theorem dL_acts_34 : decode cL_acts 34 = .ok (.iload 6, 2) := by decide +kernel
theorem dL_acts_36 : decode cL_acts 36 = .ok (.ineg, 1) := by decide +kernel
theorem dL_acts_37 : decode cL_acts 37 = .ok (.goto 4, 3) := by decide +kernel
theorem dL_acts_40 : decode cL_acts 40 = .ok (.iconst 0, 1) := by decide +kernel
theorem dL_acts_41 : decode cL_acts 41 = .ok (.iastore, 1) := by decide +kernel
theorem dL_acts_42 : decode cL_acts 42 = .ok (.aload_n 1, 1) := by decide +kernel
theorem dL_acts_43 : decode cL_acts 43 = .ok (.iconst 1, 1) := by decide +kernel
theorem dL_acts_44 : decode cL_acts 44 = .ok (.dup2, 1) := by decide +kernel
theorem dL_acts_45 : decode cL_acts 45 = .ok (.iaload, 1) := by decide +kernel
theorem dL_acts_46 : decode cL_acts 46 = .ok (.iload 6, 2) := by decide +kernel
theorem dL_acts_48 : decode cL_acts 48 = .ok (.ifCond .ge 7, 3) := by decide +kernel
theorem dL_acts_51 : decode cL_acts 51 = .ok (.iconst 0, 1) := by decide +kernel
theorem dL_acts_52 : decode cL_acts 52 = .ok (.goto 5, 3) := by decide +kernel
theorem dL_acts_55 : decode cL_acts 55 = .ok (.iload 6, 2) := by decide +kernel
theorem dL_acts_57 : decode cL_acts 57 = .ok (.iadd, 1) := by decide +kernel
theorem dL_acts_58 : decode cL_acts 58 = .ok (.iastore, 1) := by decide +kernel
theorem dL_acts_59 : decode cL_acts 59 = .ok (.aload_n 1, 1) := by decide +kernel
theorem dL_acts_60 : decode cL_acts 60 = .ok (.iconst 0, 1) := by decide +kernel
theorem dL_acts_61 : decode cL_acts 61 = .ok (.aload_n 1, 1) := by decide +kernel
theorem dL_acts_62 : decode cL_acts 62 = .ok (.iconst 3, 1) := by decide +kernel
theorem dL_acts_63 : decode cL_acts 63 = .ok (.iaload, 1) := by decide +kernel
theorem dL_acts_64 : decode cL_acts 64 = .ok (.ifCond .ne 7, 3) := by decide +kernel
theorem dL_acts_67 : decode cL_acts 67 = .ok (.iconst 0, 1) := by decide +kernel
theorem dL_acts_68 : decode cL_acts 68 = .ok (.goto 6, 3) := by decide +kernel
theorem dL_acts_71 : decode cL_acts 71 = .ok (.aload_n 1, 1) := by decide +kernel
theorem dL_acts_72 : decode cL_acts 72 = .ok (.iconst 0, 1) := by decide +kernel
theorem dL_acts_73 : decode cL_acts 73 = .ok (.iaload, 1) := by decide +kernel
theorem dL_acts_74 : decode cL_acts 74 = .ok (.iastore, 1) := by decide +kernel
theorem dL_acts_75 : decode cL_acts 75 = .ok (.aload_n 1, 1) := by decide +kernel
theorem dL_acts_76 : decode cL_acts 76 = .ok (.iconst 4, 1) := by decide +kernel
theorem dL_acts_77 : decode cL_acts 77 = .ok (.aload_n 1, 1) := by decide +kernel
theorem dL_acts_78 : decode cL_acts 78 = .ok (.iconst 3, 1) := by decide +kernel
theorem dL_acts_79 : decode cL_acts 79 = .ok (.iaload, 1) := by decide +kernel
theorem dL_acts_80 : decode cL_acts 80 = .ok (.ifCond .ne 7, 3) := by decide +kernel
theorem dL_acts_83 : decode cL_acts 83 = .ok (.iconst 0, 1) := by decide +kernel
theorem dL_acts_84 : decode cL_acts 84 = .ok (.goto 6, 3) := by decide +kernel
theorem dL_acts_87 : decode cL_acts 87 = .ok (.aload_n 1, 1) := by decide +kernel
theorem dL_acts_88 : decode cL_acts 88 = .ok (.iconst 4, 1) := by decide +kernel
theorem dL_acts_89 : decode cL_acts 89 = .ok (.iaload, 1) := by decide +kernel
theorem dL_acts_90 : decode cL_acts 90 = .ok (.iastore, 1) := by decide +kernel
theorem dL_acts_91 : decode cL_acts 91 = .ok (.iconst 1, 1) := by decide +kernel
theorem dL_acts_92 : decode cL_acts 92 = .ok (.ireturn, 1) := by decide +kernel
theorem dL_acts_93 : decode cL_acts 93 = .ok (.iload_n 2, 1) := by decide +kernel
theorem dL_acts_94 : decode cL_acts 94 = .ok (.iconst 1, 1) := by decide +kernel
theorem dL_acts_95 : decode cL_acts 95 = .ok (.if_icmp .ne 24, 3) := by decide +kernel
theorem dL_acts_98 : decode cL_acts 98 = .ok (.aload_n 1, 1) := by decide +kernel
theorem dL_acts_99 : decode cL_acts 99 = .ok (.iconst 0, 1) := by decide +kernel
theorem dL_acts_100 : decode cL_acts 100 = .ok (.iaload, 1) := by decide +kernel
theorem dL_acts_101 : decode cL_acts 101 = .ok (.ifCond .ne 18, 3) := by decide +kernel
theorem dL_acts_104 : decode cL_acts 104 = .ok (.iload_n 3, 1) := by decide +kernel
theorem dL_acts_105 : decode cL_acts 105 = .ok (.iload 5, 2) := by decide +kernel
theorem dL_acts_107 : decode cL_acts 107 = .ok (.if_icmp .gt 12, 3) := by decide +kernel
theorem dL_acts_110 : decode cL_acts 110 = .ok (.aload_n 1, 1) := by decide +kernel
theorem dL_acts_111 : decode cL_acts 111 = .ok (.iconst 2, 1) := by decide +kernel
theorem dL_acts_112 : decode cL_acts 112 = .ok (.dup2, 1) := by decide +kernel
theorem dL_acts_113 : decode cL_acts 113 = .ok (.iaload, 1) := by decide +kernel
theorem dL_acts_114 : decode cL_acts 114 = .ok (.iload_n 3, 1) := by decide +kernel
theorem dL_acts_115 : decode cL_acts 115 = .ok (.iadd, 1) := by decide +kernel
theorem dL_acts_116 : decode cL_acts 116 = .ok (.iastore, 1) := by decide +kernel
theorem dL_acts_117 : decode cL_acts 117 = .ok (.iconst 1, 1) := by decide +kernel
theorem dL_acts_118 : decode cL_acts 118 = .ok (.ireturn, 1) := by decide +kernel
theorem dL_acts_119 : decode cL_acts 119 = .ok (.iload_n 2, 1) := by decide +kernel
theorem dL_acts_120 : decode cL_acts 120 = .ok (.iconst 2, 1) := by decide +kernel
theorem dL_acts_121 : decode cL_acts 121 = .ok (.if_icmp .ne 26, 3) := by decide +kernel
theorem dL_acts_124 : decode cL_acts 124 = .ok (.aload_n 1, 1) := by decide +kernel
theorem dL_acts_125 : decode cL_acts 125 = .ok (.iconst 0, 1) := by decide +kernel
theorem dL_acts_126 : decode cL_acts 126 = .ok (.iaload, 1) := by decide +kernel
theorem dL_acts_127 : decode cL_acts 127 = .ok (.iconst 2, 1) := by decide +kernel
theorem dL_acts_128 : decode cL_acts 128 = .ok (.if_icmp .ge 19, 3) := by decide +kernel
theorem dL_acts_131 : decode cL_acts 131 = .ok (.iload_n 3, 1) := by decide +kernel
theorem dL_acts_132 : decode cL_acts 132 = .ok (.aload_n 1, 1) := by decide +kernel
theorem dL_acts_133 : decode cL_acts 133 = .ok (.iconst 2, 1) := by decide +kernel
theorem dL_acts_134 : decode cL_acts 134 = .ok (.iaload, 1) := by decide +kernel
theorem dL_acts_135 : decode cL_acts 135 = .ok (.if_icmp .gt 12, 3) := by decide +kernel
theorem dL_acts_138 : decode cL_acts 138 = .ok (.aload_n 1, 1) := by decide +kernel
theorem dL_acts_139 : decode cL_acts 139 = .ok (.iconst 2, 1) := by decide +kernel
theorem dL_acts_140 : decode cL_acts 140 = .ok (.dup2, 1) := by decide +kernel
theorem dL_acts_141 : decode cL_acts 141 = .ok (.iaload, 1) := by decide +kernel
theorem dL_acts_142 : decode cL_acts 142 = .ok (.iload_n 3, 1) := by decide +kernel
theorem dL_acts_143 : decode cL_acts 143 = .ok (.isub, 1) := by decide +kernel
theorem dL_acts_144 : decode cL_acts 144 = .ok (.iastore, 1) := by decide +kernel
theorem dL_acts_145 : decode cL_acts 145 = .ok (.iconst 1, 1) := by decide +kernel
theorem dL_acts_146 : decode cL_acts 146 = .ok (.ireturn, 1) := by decide +kernel
theorem dL_acts_147 : decode cL_acts 147 = .ok (.iload_n 2, 1) := by decide +kernel
theorem dL_acts_148 : decode cL_acts 148 = .ok (.iconst 3, 1) := by decide +kernel
theorem dL_acts_149 : decode cL_acts 149 = .ok (.if_icmp .ne 24, 3) := by decide +kernel
theorem dL_acts_152 : decode cL_acts 152 = .ok (.aload_n 1, 1) := by decide +kernel
theorem dL_acts_153 : decode cL_acts 153 = .ok (.iconst 0, 1) := by decide +kernel
theorem dL_acts_154 : decode cL_acts 154 = .ok (.iaload, 1) := by decide +kernel
theorem dL_acts_155 : decode cL_acts 155 = .ok (.ifCond .ne 18, 3) := by decide +kernel
theorem dL_acts_158 : decode cL_acts 158 = .ok (.iload_n 3, 1) := by decide +kernel
theorem dL_acts_159 : decode cL_acts 159 = .ok (.iload 5, 2) := by decide +kernel
theorem dL_acts_161 : decode cL_acts 161 = .ok (.if_icmp .gt 12, 3) := by decide +kernel
theorem dL_acts_164 : decode cL_acts 164 = .ok (.aload_n 1, 1) := by decide +kernel
theorem dL_acts_165 : decode cL_acts 165 = .ok (.iconst 1, 1) := by decide +kernel
theorem dL_acts_166 : decode cL_acts 166 = .ok (.dup2, 1) := by decide +kernel
theorem dL_acts_167 : decode cL_acts 167 = .ok (.iaload, 1) := by decide +kernel
theorem dL_acts_168 : decode cL_acts 168 = .ok (.iload_n 3, 1) := by decide +kernel
theorem dL_acts_169 : decode cL_acts 169 = .ok (.isub, 1) := by decide +kernel
theorem dL_acts_170 : decode cL_acts 170 = .ok (.iastore, 1) := by decide +kernel
theorem dL_acts_171 : decode cL_acts 171 = .ok (.iconst 1, 1) := by decide +kernel
theorem dL_acts_172 : decode cL_acts 172 = .ok (.ireturn, 1) := by decide +kernel
theorem dL_acts_173 : decode cL_acts 173 = .ok (.iload_n 2, 1) := by decide +kernel
theorem dL_acts_174 : decode cL_acts 174 = .ok (.iconst 4, 1) := by decide +kernel
theorem dL_acts_175 : decode cL_acts 175 = .ok (.if_icmp .ne 59, 3) := by decide +kernel
theorem dL_acts_178 : decode cL_acts 178 = .ok (.aload_n 1, 1) := by decide +kernel
theorem dL_acts_179 : decode cL_acts 179 = .ok (.iconst 0, 1) := by decide +kernel
theorem dL_acts_180 : decode cL_acts 180 = .ok (.iaload, 1) := by decide +kernel
theorem dL_acts_181 : decode cL_acts 181 = .ok (.iconst 2, 1) := by decide +kernel
theorem dL_acts_182 : decode cL_acts 182 = .ok (.if_icmp .ne 52, 3) := by decide +kernel
theorem dL_acts_185 : decode cL_acts 185 = .ok (.aload_n 1, 1) := by decide +kernel
theorem dL_acts_186 : decode cL_acts 186 = .ok (.iconst 5, 1) := by decide +kernel
theorem dL_acts_187 : decode cL_acts 187 = .ok (.iaload, 1) := by decide +kernel
theorem dL_acts_188 : decode cL_acts 188 = .ok (.bipush 24, 2) := by decide +kernel
theorem dL_acts_190 : decode cL_acts 190 = .ok (.if_icmp .ge 44, 3) := by decide +kernel
theorem dL_acts_193 : decode cL_acts 193 = .ok (.iload_n 3, 1) := by decide +kernel
theorem dL_acts_194 : decode cL_acts 194 = .ok (.aload_n 1, 1) := by decide +kernel
theorem dL_acts_195 : decode cL_acts 195 = .ok (.iconst 3, 1) := by decide +kernel
theorem dL_acts_196 : decode cL_acts 196 = .ok (.iaload, 1) := by decide +kernel
theorem dL_acts_197 : decode cL_acts 197 = .ok (.sipush 500, 3) := by decide +kernel
theorem dL_acts_200 : decode cL_acts 200 = .ok (.aload_n 1, 1) := by decide +kernel
theorem dL_acts_201 : decode cL_acts 201 = .ok (.iconst 5, 1) := by decide +kernel
theorem dL_acts_202 : decode cL_acts 202 = .ok (.iaload, 1) := by decide +kernel
theorem dL_acts_203 : decode cL_acts 203 = .ok (.imul, 1) := by decide +kernel
theorem dL_acts_204 : decode cL_acts 204 = .ok (.iadd, 1) := by decide +kernel
theorem dL_acts_205 : decode cL_acts 205 = .ok (.if_icmp .lt 29, 3) := by decide +kernel
theorem dL_acts_208 : decode cL_acts 208 = .ok (.aload_n 1, 1) := by decide +kernel
theorem dL_acts_209 : decode cL_acts 209 = .ok (.iconst 1, 1) := by decide +kernel
theorem dL_acts_210 : decode cL_acts 210 = .ok (.iload_n 3, 1) := by decide +kernel
theorem dL_acts_211 : decode cL_acts 211 = .ok (.aload_n 1, 1) := by decide +kernel
theorem dL_acts_212 : decode cL_acts 212 = .ok (.iconst 3, 1) := by decide +kernel
theorem dL_acts_213 : decode cL_acts 213 = .ok (.iaload, 1) := by decide +kernel
theorem dL_acts_214 : decode cL_acts 214 = .ok (.isub, 1) := by decide +kernel
theorem dL_acts_215 : decode cL_acts 215 = .ok (.sipush 500, 3) := by decide +kernel
theorem dL_acts_218 : decode cL_acts 218 = .ok (.aload_n 1, 1) := by decide +kernel
theorem dL_acts_219 : decode cL_acts 219 = .ok (.iconst 5, 1) := by decide +kernel
theorem dL_acts_220 : decode cL_acts 220 = .ok (.iaload, 1) := by decide +kernel
theorem dL_acts_221 : decode cL_acts 221 = .ok (.imul, 1) := by decide +kernel
theorem dL_acts_222 : decode cL_acts 222 = .ok (.isub, 1) := by decide +kernel
theorem dL_acts_223 : decode cL_acts 223 = .ok (.iastore, 1) := by decide +kernel
theorem dL_acts_224 : decode cL_acts 224 = .ok (.aload_n 1, 1) := by decide +kernel
theorem dL_acts_225 : decode cL_acts 225 = .ok (.iconst 3, 1) := by decide +kernel
theorem dL_acts_226 : decode cL_acts 226 = .ok (.iconst 0, 1) := by decide +kernel
theorem dL_acts_227 : decode cL_acts 227 = .ok (.iastore, 1) := by decide +kernel
theorem dL_acts_228 : decode cL_acts 228 = .ok (.aload_n 1, 1) := by decide +kernel
theorem dL_acts_229 : decode cL_acts 229 = .ok (.iconst 0, 1) := by decide +kernel
theorem dL_acts_230 : decode cL_acts 230 = .ok (.iconst 0, 1) := by decide +kernel
theorem dL_acts_231 : decode cL_acts 231 = .ok (.iastore, 1) := by decide +kernel
theorem dL_acts_232 : decode cL_acts 232 = .ok (.iconst 1, 1) := by decide +kernel
theorem dL_acts_233 : decode cL_acts 233 = .ok (.ireturn, 1) := by decide +kernel
theorem dL_acts_234 : decode cL_acts 234 = .ok (.iload_n 2, 1) := by decide +kernel
theorem dL_acts_235 : decode cL_acts 235 = .ok (.iconst 5, 1) := by decide +kernel
theorem dL_acts_236 : decode cL_acts 236 = .ok (.if_icmp .ne 48, 3) := by decide +kernel
theorem dL_acts_239 : decode cL_acts 239 = .ok (.aload_n 1, 1) := by decide +kernel
theorem dL_acts_240 : decode cL_acts 240 = .ok (.iconst 0, 1) := by decide +kernel
theorem dL_acts_241 : decode cL_acts 241 = .ok (.iaload, 1) := by decide +kernel
theorem dL_acts_242 : decode cL_acts 242 = .ok (.iconst 2, 1) := by decide +kernel
theorem dL_acts_243 : decode cL_acts 243 = .ok (.if_icmp .ge 41, 3) := by decide +kernel
theorem dL_acts_246 : decode cL_acts 246 = .ok (.aload_n 0, 1) := by decide +kernel
theorem dL_acts_247 : decode cL_acts 247 = .ok (.aload_n 1, 1) := by decide +kernel
theorem dL_acts_248 : decode cL_acts 248 = .ok (.iload 4, 2) := by decide +kernel
theorem dL_acts_250 : decode cL_acts 250 = .ok (.invokestatic 15, 3) := by decide +kernel
theorem dL_acts_253 : decode cL_acts 253 = .ok (.aload_n 1, 1) := by decide +kernel
theorem dL_acts_254 : decode cL_acts 254 = .ok (.iconst 2, 1) := by decide +kernel
theorem dL_acts_255 : decode cL_acts 255 = .ok (.iaload, 1) := by decide +kernel
theorem dL_acts_256 : decode cL_acts 256 = .ok (.i2l, 1) := by decide +kernel
theorem dL_acts_257 : decode cL_acts 257 = .ok (.lsub, 1) := by decide +kernel
theorem dL_acts_258 : decode cL_acts 258 = .ok (.lstore 6, 2) := by decide +kernel
theorem dL_acts_260 : decode cL_acts 260 = .ok (.aload_n 1, 1) := by decide +kernel
theorem dL_acts_261 : decode cL_acts 261 = .ok (.bipush 6, 2) := by decide +kernel
theorem dL_acts_263 : decode cL_acts 263 = .ok (.lload 6, 2) := by decide +kernel
theorem dL_acts_265 : decode cL_acts 265 = .ok (.lconst 0, 1) := by decide +kernel
theorem dL_acts_266 : decode cL_acts 266 = .ok (.lcmp, 1) := by decide +kernel
theorem dL_acts_267 : decode cL_acts 267 = .ok (.ifCond .le 9, 3) := by decide +kernel
theorem dL_acts_270 : decode cL_acts 270 = .ok (.lload 6, 2) := by decide +kernel
theorem dL_acts_272 : decode cL_acts 272 = .ok (.l2i, 1) := by decide +kernel
theorem dL_acts_273 : decode cL_acts 273 = .ok (.goto 4, 3) := by decide +kernel
theorem dL_acts_276 : decode cL_acts 276 = .ok (.iconst 0, 1) := by decide +kernel
theorem dL_acts_277 : decode cL_acts 277 = .ok (.iastore, 1) := by decide +kernel
theorem dL_acts_278 : decode cL_acts 278 = .ok (.aload_n 1, 1) := by decide +kernel
theorem dL_acts_279 : decode cL_acts 279 = .ok (.iconst 0, 1) := by decide +kernel
theorem dL_acts_280 : decode cL_acts 280 = .ok (.iconst 3, 1) := by decide +kernel
theorem dL_acts_281 : decode cL_acts 281 = .ok (.iastore, 1) := by decide +kernel
theorem dL_acts_282 : decode cL_acts 282 = .ok (.iconst 1, 1) := by decide +kernel
theorem dL_acts_283 : decode cL_acts 283 = .ok (.ireturn, 1) := by decide +kernel
theorem dL_acts_284 : decode cL_acts 284 = .ok (.iconst 0, 1) := by decide +kernel
theorem dL_acts_285 : decode cL_acts 285 = .ok (.ireturn, 1) := by decide +kernel
theorem dL_closes_0 : decode cL_closes 0 = .ok (.aload_n 1, 1) := by decide +kernel
theorem dL_closes_1 : decode cL_closes 1 = .ok (.iconst 5, 1) := by decide +kernel
theorem dL_closes_2 : decode cL_closes 2 = .ok (.dup2, 1) := by decide +kernel
theorem dL_closes_3 : decode cL_closes 3 = .ok (.iaload, 1) := by decide +kernel
theorem dL_closes_4 : decode cL_closes 4 = .ok (.aload_n 1, 1) := by decide +kernel
theorem dL_closes_5 : decode cL_closes 5 = .ok (.iconst 0, 1) := by decide +kernel
theorem dL_closes_6 : decode cL_closes 6 = .ok (.iaload, 1) := by decide +kernel
theorem dL_closes_7 : decode cL_closes 7 = .ok (.iconst 2, 1) := by decide +kernel
theorem dL_closes_8 : decode cL_closes 8 = .ok (.if_icmp .ne 7, 3) := by decide +kernel
theorem dL_closes_11 : decode cL_closes 11 = .ok (.iconst 1, 1) := by decide +kernel
theorem dL_closes_12 : decode cL_closes 12 = .ok (.goto 4, 3) := by decide +kernel
theorem dL_closes_15 : decode cL_closes 15 = .ok (.iconst 0, 1) := by decide +kernel
theorem dL_closes_16 : decode cL_closes 16 = .ok (.iadd, 1) := by decide +kernel
theorem dL_closes_17 : decode cL_closes 17 = .ok (.iastore, 1) := by decide +kernel
theorem dL_closes_18 : decode cL_closes 18 = .ok (.aload_n 1, 1) := by decide +kernel
theorem dL_closes_19 : decode cL_closes 19 = .ok (.iconst 0, 1) := by decide +kernel
theorem dL_closes_20 : decode cL_closes 20 = .ok (.iaload, 1) := by decide +kernel
theorem dL_closes_21 : decode cL_closes 21 = .ok (.iconst 1, 1) := by decide +kernel
theorem dL_closes_22 : decode cL_closes 22 = .ok (.if_icmp .le 4, 3) := by decide +kernel
theorem dL_closes_25 : decode cL_closes 25 = .ok (.return_, 1) := by decide +kernel
theorem dL_closes_26 : decode cL_closes 26 = .ok (.aload_n 0, 1) := by decide +kernel
theorem dL_closes_27 : decode cL_closes 27 = .ok (.aload_n 1, 1) := by decide +kernel
theorem dL_closes_28 : decode cL_closes 28 = .ok (.iload_n 2, 1) := by decide +kernel
theorem dL_closes_29 : decode cL_closes 29 = .ok (.invokestatic 21, 3) := by decide +kernel
theorem dL_closes_32 : decode cL_closes 32 = .ok (.aload_n 1, 1) := by decide +kernel
theorem dL_closes_33 : decode cL_closes 33 = .ok (.iconst 3, 1) := by decide +kernel
theorem dL_closes_34 : decode cL_closes 34 = .ok (.iaload, 1) := by decide +kernel
theorem dL_closes_35 : decode cL_closes 35 = .ok (.iadd, 1) := by decide +kernel
theorem dL_closes_36 : decode cL_closes 36 = .ok (.istore_n 3, 1) := by decide +kernel
theorem dL_closes_37 : decode cL_closes 37 = .ok (.aload_n 1, 1) := by decide +kernel
theorem dL_closes_38 : decode cL_closes 38 = .ok (.iconst 1, 1) := by decide +kernel
theorem dL_closes_39 : decode cL_closes 39 = .ok (.iaload, 1) := by decide +kernel
theorem dL_closes_40 : decode cL_closes 40 = .ok (.aload_n 1, 1) := by decide +kernel
theorem dL_closes_41 : decode cL_closes 41 = .ok (.iconst 2, 1) := by decide +kernel
theorem dL_closes_42 : decode cL_closes 42 = .ok (.iaload, 1) := by decide +kernel
theorem dL_closes_43 : decode cL_closes 43 = .ok (.if_icmp .le 13, 3) := by decide +kernel
theorem dL_closes_46 : decode cL_closes 46 = .ok (.aload_n 1, 1) := by decide +kernel
theorem dL_closes_47 : decode cL_closes 47 = .ok (.iconst 1, 1) := by decide +kernel
theorem dL_closes_48 : decode cL_closes 48 = .ok (.iaload, 1) := by decide +kernel
theorem dL_closes_49 : decode cL_closes 49 = .ok (.aload_n 1, 1) := by decide +kernel
theorem dL_closes_50 : decode cL_closes 50 = .ok (.iconst 2, 1) := by decide +kernel
theorem dL_closes_51 : decode cL_closes 51 = .ok (.iaload, 1) := by decide +kernel
theorem dL_closes_52 : decode cL_closes 52 = .ok (.isub, 1) := by decide +kernel
theorem dL_closes_53 : decode cL_closes 53 = .ok (.goto 4, 3) := by decide +kernel
theorem dL_closes_56 : decode cL_closes 56 = .ok (.iconst 0, 1) := by decide +kernel
theorem dL_closes_57 : decode cL_closes 57 = .ok (.iload_n 3, 1) := by decide +kernel
theorem dL_closes_58 : decode cL_closes 58 = .ok (.if_icmp .lt 7, 3) := by decide +kernel
theorem dL_closes_61 : decode cL_closes 61 = .ok (.iconst 1, 1) := by decide +kernel
theorem dL_closes_62 : decode cL_closes 62 = .ok (.goto 4, 3) := by decide +kernel
theorem dL_closes_65 : decode cL_closes 65 = .ok (.iconst 0, 1) := by decide +kernel
theorem dL_closes_66 : decode cL_closes 66 = .ok (.istore 4, 2) := by decide +kernel
theorem dL_closes_68 : decode cL_closes 68 = .ok (.aload_n 1, 1) := by decide +kernel
theorem dL_closes_69 : decode cL_closes 69 = .ok (.iconst 1, 1) := by decide +kernel
theorem dL_closes_70 : decode cL_closes 70 = .ok (.dup2, 1) := by decide +kernel
theorem dL_closes_71 : decode cL_closes 71 = .ok (.iaload, 1) := by decide +kernel
theorem dL_closes_72 : decode cL_closes 72 = .ok (.iload 4, 2) := by decide +kernel
theorem dL_closes_74 : decode cL_closes 74 = .ok (.ifCond .eq 7, 3) := by decide +kernel
theorem dL_closes_77 : decode cL_closes 77 = .ok (.iload_n 3, 1) := by decide +kernel
theorem dL_closes_78 : decode cL_closes 78 = .ok (.goto 4, 3) := by decide +kernel
theorem dL_closes_81 : decode cL_closes 81 = .ok (.iconst 0, 1) := by decide +kernel
theorem dL_closes_82 : decode cL_closes 82 = .ok (.isub, 1) := by decide +kernel
theorem dL_closes_83 : decode cL_closes 83 = .ok (.iastore, 1) := by decide +kernel
theorem dL_closes_84 : decode cL_closes 84 = .ok (.aload_n 1, 1) := by decide +kernel
theorem dL_closes_85 : decode cL_closes 85 = .ok (.iconst 3, 1) := by decide +kernel
theorem dL_closes_86 : decode cL_closes 86 = .ok (.iload 4, 2) := by decide +kernel
theorem dL_closes_88 : decode cL_closes 88 = .ok (.ifCond .eq 7, 3) := by decide +kernel
theorem dL_closes_91 : decode cL_closes 91 = .ok (.iconst 0, 1) := by decide +kernel
theorem dL_closes_92 : decode cL_closes 92 = .ok (.goto 4, 3) := by decide +kernel
theorem dL_closes_95 : decode cL_closes 95 = .ok (.iload_n 3, 1) := by decide +kernel
theorem dL_closes_96 : decode cL_closes 96 = .ok (.iastore, 1) := by decide +kernel
theorem dL_closes_97 : decode cL_closes 97 = .ok (.aload_n 1, 1) := by decide +kernel
theorem dL_closes_98 : decode cL_closes 98 = .ok (.iconst 4, 1) := by decide +kernel
theorem dL_closes_99 : decode cL_closes 99 = .ok (.iload 4, 2) := by decide +kernel
theorem dL_closes_101 : decode cL_closes 101 = .ok (.ifCond .eq 7, 3) := by decide +kernel
theorem dL_closes_104 : decode cL_closes 104 = .ok (.iconst 0, 1) := by decide +kernel
theorem dL_closes_105 : decode cL_closes 105 = .ok (.goto 8, 3) := by decide +kernel
theorem dL_closes_108 : decode cL_closes 108 = .ok (.aload_n 1, 1) := by decide +kernel
theorem dL_closes_109 : decode cL_closes 109 = .ok (.iconst 4, 1) := by decide +kernel
theorem dL_closes_110 : decode cL_closes 110 = .ok (.iaload, 1) := by decide +kernel
theorem dL_closes_111 : decode cL_closes 111 = .ok (.iconst 1, 1) := by decide +kernel
theorem dL_closes_112 : decode cL_closes 112 = .ok (.iadd, 1) := by decide +kernel
theorem dL_closes_113 : decode cL_closes 113 = .ok (.iastore, 1) := by decide +kernel
theorem dL_closes_114 : decode cL_closes 114 = .ok (.aload_n 1, 1) := by decide +kernel
theorem dL_closes_115 : decode cL_closes 115 = .ok (.iconst 0, 1) := by decide +kernel
theorem dL_closes_116 : decode cL_closes 116 = .ok (.iload 4, 2) := by decide +kernel
theorem dL_closes_118 : decode cL_closes 118 = .ok (.ifCond .eq 7, 3) := by decide +kernel
theorem dL_closes_121 : decode cL_closes 121 = .ok (.iconst 0, 1) := by decide +kernel
theorem dL_closes_122 : decode cL_closes 122 = .ok (.goto 4, 3) := by decide +kernel
theorem dL_closes_125 : decode cL_closes 125 = .ok (.iconst 1, 1) := by decide +kernel
theorem dL_closes_126 : decode cL_closes 126 = .ok (.iastore, 1) := by decide +kernel
theorem dL_closes_127 : decode cL_closes 127 = .ok (.aload_n 1, 1) := by decide +kernel
theorem dL_closes_128 : decode cL_closes 128 = .ok (.iconst 4, 1) := by decide +kernel
theorem dL_closes_129 : decode cL_closes 129 = .ok (.iaload, 1) := by decide +kernel
theorem dL_closes_130 : decode cL_closes 130 = .ok (.iconst 3, 1) := by decide +kernel
theorem dL_closes_131 : decode cL_closes 131 = .ok (.if_icmp .ne 24, 3) := by decide +kernel
theorem dL_closes_134 : decode cL_closes 134 = .ok (.aload_n 1, 1) := by decide +kernel
theorem dL_closes_135 : decode cL_closes 135 = .ok (.iconst 0, 1) := by decide +kernel
theorem dL_closes_136 : decode cL_closes 136 = .ok (.iconst 2, 1) := by decide +kernel
theorem dL_closes_137 : decode cL_closes 137 = .ok (.iastore, 1) := by decide +kernel
theorem dL_closes_138 : decode cL_closes 138 = .ok (.aload_n 1, 1) := by decide +kernel
theorem dL_closes_139 : decode cL_closes 139 = .ok (.iconst 1, 1) := by decide +kernel
theorem dL_closes_140 : decode cL_closes 140 = .ok (.iconst 0, 1) := by decide +kernel
theorem dL_closes_141 : decode cL_closes 141 = .ok (.iastore, 1) := by decide +kernel
theorem dL_closes_142 : decode cL_closes 142 = .ok (.aload_n 1, 1) := by decide +kernel
theorem dL_closes_143 : decode cL_closes 143 = .ok (.iconst 2, 1) := by decide +kernel
theorem dL_closes_144 : decode cL_closes 144 = .ok (.iconst 0, 1) := by decide +kernel
theorem dL_closes_145 : decode cL_closes 145 = .ok (.iastore, 1) := by decide +kernel
theorem dL_closes_146 : decode cL_closes 146 = .ok (.aload_n 1, 1) := by decide +kernel
theorem dL_closes_147 : decode cL_closes 147 = .ok (.iconst 4, 1) := by decide +kernel
theorem dL_closes_148 : decode cL_closes 148 = .ok (.iconst 0, 1) := by decide +kernel
theorem dL_closes_149 : decode cL_closes 149 = .ok (.iastore, 1) := by decide +kernel
theorem dL_closes_150 : decode cL_closes 150 = .ok (.aload_n 1, 1) := by decide +kernel
theorem dL_closes_151 : decode cL_closes 151 = .ok (.iconst 5, 1) := by decide +kernel
theorem dL_closes_152 : decode cL_closes 152 = .ok (.iconst 0, 1) := by decide +kernel
theorem dL_closes_153 : decode cL_closes 153 = .ok (.iastore, 1) := by decide +kernel
theorem dL_closes_154 : decode cL_closes 154 = .ok (.return_, 1) := by decide +kernel
theorem dL_closes_155 : decode cL_closes 155 = .ok (.aload_n 1, 1) := by decide +kernel
theorem dL_closes_156 : decode cL_closes 156 = .ok (.iconst 1, 1) := by decide +kernel
theorem dL_closes_157 : decode cL_closes 157 = .ok (.iaload, 1) := by decide +kernel
theorem dL_closes_158 : decode cL_closes 158 = .ok (.aload_n 1, 1) := by decide +kernel
theorem dL_closes_159 : decode cL_closes 159 = .ok (.iconst 2, 1) := by decide +kernel
theorem dL_closes_160 : decode cL_closes 160 = .ok (.iaload, 1) := by decide +kernel
theorem dL_closes_161 : decode cL_closes 161 = .ok (.if_icmp .ge 10, 3) := by decide +kernel
theorem dL_closes_164 : decode cL_closes 164 = .ok (.aload_n 1, 1) := by decide +kernel
theorem dL_closes_165 : decode cL_closes 165 = .ok (.iconst 1, 1) := by decide +kernel
theorem dL_closes_166 : decode cL_closes 166 = .ok (.iaload, 1) := by decide +kernel
theorem dL_closes_167 : decode cL_closes 167 = .ok (.i2l, 1) := by decide +kernel
theorem dL_closes_168 : decode cL_closes 168 = .ok (.goto 7, 3) := by decide +kernel
theorem dL_closes_171 : decode cL_closes 171 = .ok (.aload_n 1, 1) := by decide +kernel
theorem dL_closes_172 : decode cL_closes 172 = .ok (.iconst 2, 1) := by decide +kernel
theorem dL_closes_173 : decode cL_closes 173 = .ok (.iaload, 1) := by decide +kernel
theorem dL_closes_174 : decode cL_closes 174 = .ok (.i2l, 1) := by decide +kernel
theorem dL_closes_175 : decode cL_closes 175 = .ok (.lstore 5, 2) := by decide +kernel
theorem dL_closes_177 : decode cL_closes 177 = .ok (.aload_n 1, 1) := by decide +kernel
theorem dL_closes_178 : decode cL_closes 178 = .ok (.iconst 1, 1) := by decide +kernel
theorem dL_closes_179 : decode cL_closes 179 = .ok (.iaload, 1) := by decide +kernel
theorem dL_closes_180 : decode cL_closes 180 = .ok (.i2l, 1) := by decide +kernel
theorem dL_closes_181 : decode cL_closes 181 = .ok (.lload 5, 2) := by decide +kernel
theorem dL_closes_183 : decode cL_closes 183 = .ok (.lsub, 1) := by decide +kernel
theorem dL_closes_184 : decode cL_closes 184 = .ok (.ldc2_w 25, 3) := by decide +kernel
theorem dL_closes_187 : decode cL_closes 187 = .ok (.lsub, 1) := by decide +kernel
theorem dL_closes_188 : decode cL_closes 188 = .ok (.lstore 7, 2) := by decide +kernel
theorem dL_closes_190 : decode cL_closes 190 = .ok (.lload 5, 2) := by decide +kernel
theorem dL_closes_192 : decode cL_closes 192 = .ok (.ldc2_w 27, 3) := by decide +kernel
theorem dL_closes_195 : decode cL_closes 195 = .ok (.lmul, 1) := by decide +kernel
theorem dL_closes_196 : decode cL_closes 196 = .ok (.lload 7, 2) := by decide +kernel
theorem dL_closes_198 : decode cL_closes 198 = .ok (.lconst 0, 1) := by decide +kernel
theorem dL_closes_199 : decode cL_closes 199 = .ok (.lcmp, 1) := by decide +kernel
theorem dL_closes_200 : decode cL_closes 200 = .ok (.ifCond .le 16, 3) := by decide +kernel
theorem dL_closes_203 : decode cL_closes 203 = .ok (.ldc2_w 29, 3) := by decide +kernel
theorem dL_closes_206 : decode cL_closes 206 = .ok (.lload 7, 2) := by decide +kernel
theorem dL_closes_208 : decode cL_closes 208 = .ok (.ldc2_w 31, 3) := by decide +kernel
theorem dL_closes_211 : decode cL_closes 211 = .ok (.lmul, 1) := by decide +kernel
theorem dL_closes_212 : decode cL_closes 212 = .ok (.ladd, 1) := by decide +kernel
theorem dL_closes_213 : decode cL_closes 213 = .ok (.goto 14, 3) := by decide +kernel
theorem dL_closes_216 : decode cL_closes 216 = .ok (.aload_n 1, 1) := by decide +kernel
theorem dL_closes_217 : decode cL_closes 217 = .ok (.iconst 1, 1) := by decide +kernel
theorem dL_closes_218 : decode cL_closes 218 = .ok (.iaload, 1) := by decide +kernel
theorem dL_closes_219 : decode cL_closes 219 = .ok (.i2l, 1) := by decide +kernel
theorem dL_closes_220 : decode cL_closes 220 = .ok (.lload 5, 2) := by decide +kernel
theorem dL_closes_222 : decode cL_closes 222 = .ok (.lsub, 1) := by decide +kernel
theorem dL_closes_223 : decode cL_closes 223 = .ok (.ldc2_w 33, 3) := by decide +kernel
theorem dL_closes_226 : decode cL_closes 226 = .ok (.lmul, 1) := by decide +kernel
theorem dL_closes_227 : decode cL_closes 227 = .ok (.ladd, 1) := by decide +kernel
theorem dL_closes_228 : decode cL_closes 228 = .ok (.lstore 9, 2) := by decide +kernel
theorem dL_closes_230 : decode cL_closes 230 = .ok (.aload_n 1, 1) := by decide +kernel
theorem dL_closes_231 : decode cL_closes 231 = .ok (.iconst 1, 1) := by decide +kernel
theorem dL_closes_232 : decode cL_closes 232 = .ok (.dup2, 1) := by decide +kernel
theorem dL_closes_233 : decode cL_closes 233 = .ok (.iaload, 1) := by decide +kernel
theorem dL_closes_234 : decode cL_closes 234 = .ok (.lload 9, 2) := by decide +kernel
theorem dL_closes_236 : decode cL_closes 236 = .ok (.ldc2_w 35, 3) := by decide +kernel
theorem dL_closes_239 : decode cL_closes 239 = .ok (.ldiv, 1) := by decide +kernel
theorem dL_closes_240 : decode cL_closes 240 = .ok (.l2i, 1) := by decide +kernel
theorem dL_closes_241 : decode cL_closes 241 = .ok (.iadd, 1) := by decide +kernel
theorem dL_closes_242 : decode cL_closes 242 = .ok (.iastore, 1) := by decide +kernel
theorem dL_closes_243 : decode cL_closes 243 = .ok (.aload_n 1, 1) := by decide +kernel
theorem dL_closes_244 : decode cL_closes 244 = .ok (.iconst 2, 1) := by decide +kernel
theorem dL_closes_245 : decode cL_closes 245 = .ok (.dup2, 1) := by decide +kernel
theorem dL_closes_246 : decode cL_closes 246 = .ok (.iaload, 1) := by decide +kernel
theorem dL_closes_247 : decode cL_closes 247 = .ok (.aload_n 1, 1) := by decide +kernel
theorem dL_closes_248 : decode cL_closes 248 = .ok (.iconst 2, 1) := by decide +kernel
theorem dL_closes_249 : decode cL_closes 249 = .ok (.iaload, 1) := by decide +kernel
theorem dL_closes_250 : decode cL_closes 250 = .ok (.i2l, 1) := by decide +kernel
theorem dL_closes_251 : decode cL_closes 251 = .ok (.ldc2_w 37, 3) := by decide +kernel
theorem dL_closes_254 : decode cL_closes 254 = .ok (.lmul, 1) := by decide +kernel
theorem dL_closes_255 : decode cL_closes 255 = .ok (.ldc2_w 35, 3) := by decide +kernel
theorem dL_closes_258 : decode cL_closes 258 = .ok (.ldiv, 1) := by decide +kernel
theorem dL_closes_259 : decode cL_closes 259 = .ok (.l2i, 1) := by decide +kernel
theorem dL_closes_260 : decode cL_closes 260 = .ok (.iadd, 1) := by decide +kernel
theorem dL_closes_261 : decode cL_closes 261 = .ok (.iastore, 1) := by decide +kernel
theorem dL_closes_262 : decode cL_closes 262 = .ok (.return_, 1) := by decide +kernel
theorem dL_takes_0 : decode cL_takes 0 = .ok (.aload_n 0, 1) := by decide +kernel
theorem dL_takes_1 : decode cL_takes 1 = .ok (.iconst 0, 1) := by decide +kernel
theorem dL_takes_2 : decode cL_takes 2 = .ok (.aload_n 1, 1) := by decide +kernel
theorem dL_takes_3 : decode cL_takes 3 = .ok (.iload 7, 2) := by decide +kernel
theorem dL_takes_5 : decode cL_takes 5 = .ok (.iaload, 1) := by decide +kernel
theorem dL_takes_6 : decode cL_takes 6 = .ok (.iastore, 1) := by decide +kernel
theorem dL_takes_7 : decode cL_takes 7 = .ok (.aload_n 0, 1) := by decide +kernel
theorem dL_takes_8 : decode cL_takes 8 = .ok (.iconst 1, 1) := by decide +kernel
theorem dL_takes_9 : decode cL_takes 9 = .ok (.aload_n 2, 1) := by decide +kernel
theorem dL_takes_10 : decode cL_takes 10 = .ok (.iload 7, 2) := by decide +kernel
theorem dL_takes_12 : decode cL_takes 12 = .ok (.iaload, 1) := by decide +kernel
theorem dL_takes_13 : decode cL_takes 13 = .ok (.iastore, 1) := by decide +kernel
theorem dL_takes_14 : decode cL_takes 14 = .ok (.aload_n 0, 1) := by decide +kernel
theorem dL_takes_15 : decode cL_takes 15 = .ok (.iconst 2, 1) := by decide +kernel
theorem dL_takes_16 : decode cL_takes 16 = .ok (.aload_n 3, 1) := by decide +kernel
theorem dL_takes_17 : decode cL_takes 17 = .ok (.iload 7, 2) := by decide +kernel
theorem dL_takes_19 : decode cL_takes 19 = .ok (.iaload, 1) := by decide +kernel
theorem dL_takes_20 : decode cL_takes 20 = .ok (.iastore, 1) := by decide +kernel
theorem dL_takes_21 : decode cL_takes 21 = .ok (.aload_n 0, 1) := by decide +kernel
theorem dL_takes_22 : decode cL_takes 22 = .ok (.iconst 3, 1) := by decide +kernel
theorem dL_takes_23 : decode cL_takes 23 = .ok (.aload 4, 2) := by decide +kernel
theorem dL_takes_25 : decode cL_takes 25 = .ok (.iload 7, 2) := by decide +kernel
theorem dL_takes_27 : decode cL_takes 27 = .ok (.iaload, 1) := by decide +kernel
theorem dL_takes_28 : decode cL_takes 28 = .ok (.iastore, 1) := by decide +kernel
theorem dL_takes_29 : decode cL_takes 29 = .ok (.aload_n 0, 1) := by decide +kernel
theorem dL_takes_30 : decode cL_takes 30 = .ok (.iconst 4, 1) := by decide +kernel
theorem dL_takes_31 : decode cL_takes 31 = .ok (.aload 5, 2) := by decide +kernel
theorem dL_takes_33 : decode cL_takes 33 = .ok (.iload 7, 2) := by decide +kernel
theorem dL_takes_35 : decode cL_takes 35 = .ok (.iaload, 1) := by decide +kernel
theorem dL_takes_36 : decode cL_takes 36 = .ok (.bipush 8, 2) := by decide +kernel
theorem dL_takes_38 : decode cL_takes 38 = .ok (.irem, 1) := by decide +kernel
theorem dL_takes_39 : decode cL_takes 39 = .ok (.iastore, 1) := by decide +kernel
theorem dL_takes_40 : decode cL_takes 40 = .ok (.aload_n 0, 1) := by decide +kernel
theorem dL_takes_41 : decode cL_takes 41 = .ok (.iconst 5, 1) := by decide +kernel
theorem dL_takes_42 : decode cL_takes 42 = .ok (.aload 5, 2) := by decide +kernel
theorem dL_takes_44 : decode cL_takes 44 = .ok (.iload 7, 2) := by decide +kernel
theorem dL_takes_46 : decode cL_takes 46 = .ok (.iaload, 1) := by decide +kernel
theorem dL_takes_47 : decode cL_takes 47 = .ok (.bipush 8, 2) := by decide +kernel
theorem dL_takes_49 : decode cL_takes 49 = .ok (.idiv, 1) := by decide +kernel
theorem dL_takes_50 : decode cL_takes 50 = .ok (.iastore, 1) := by decide +kernel
theorem dL_takes_51 : decode cL_takes 51 = .ok (.aload_n 0, 1) := by decide +kernel
theorem dL_takes_52 : decode cL_takes 52 = .ok (.bipush 6, 2) := by decide +kernel
theorem dL_takes_54 : decode cL_takes 54 = .ok (.aload 6, 2) := by decide +kernel
theorem dL_takes_56 : decode cL_takes 56 = .ok (.iload 7, 2) := by decide +kernel
theorem dL_takes_58 : decode cL_takes 58 = .ok (.iaload, 1) := by decide +kernel
theorem dL_takes_59 : decode cL_takes 59 = .ok (.iastore, 1) := by decide +kernel
theorem dL_takes_60 : decode cL_takes 60 = .ok (.return_, 1) := by decide +kernel
theorem dL_keeps_0 : decode cL_keeps 0 = .ok (.aload_n 1, 1) := by decide +kernel
theorem dL_keeps_1 : decode cL_keeps 1 = .ok (.iload 7, 2) := by decide +kernel
theorem dL_keeps_3 : decode cL_keeps 3 = .ok (.aload_n 0, 1) := by decide +kernel
theorem dL_keeps_4 : decode cL_keeps 4 = .ok (.iconst 0, 1) := by decide +kernel
theorem dL_keeps_5 : decode cL_keeps 5 = .ok (.iaload, 1) := by decide +kernel
theorem dL_keeps_6 : decode cL_keeps 6 = .ok (.iastore, 1) := by decide +kernel
theorem dL_keeps_7 : decode cL_keeps 7 = .ok (.aload_n 2, 1) := by decide +kernel
theorem dL_keeps_8 : decode cL_keeps 8 = .ok (.iload 7, 2) := by decide +kernel
theorem dL_keeps_10 : decode cL_keeps 10 = .ok (.aload_n 0, 1) := by decide +kernel
theorem dL_keeps_11 : decode cL_keeps 11 = .ok (.iconst 1, 1) := by decide +kernel
theorem dL_keeps_12 : decode cL_keeps 12 = .ok (.iaload, 1) := by decide +kernel
theorem dL_keeps_13 : decode cL_keeps 13 = .ok (.iastore, 1) := by decide +kernel
theorem dL_keeps_14 : decode cL_keeps 14 = .ok (.aload_n 3, 1) := by decide +kernel
theorem dL_keeps_15 : decode cL_keeps 15 = .ok (.iload 7, 2) := by decide +kernel
theorem dL_keeps_17 : decode cL_keeps 17 = .ok (.aload_n 0, 1) := by decide +kernel
theorem dL_keeps_18 : decode cL_keeps 18 = .ok (.iconst 2, 1) := by decide +kernel
theorem dL_keeps_19 : decode cL_keeps 19 = .ok (.iaload, 1) := by decide +kernel
theorem dL_keeps_20 : decode cL_keeps 20 = .ok (.iastore, 1) := by decide +kernel
theorem dL_keeps_21 : decode cL_keeps 21 = .ok (.aload 4, 2) := by decide +kernel
theorem dL_keeps_23 : decode cL_keeps 23 = .ok (.iload 7, 2) := by decide +kernel
theorem dL_keeps_25 : decode cL_keeps 25 = .ok (.aload_n 0, 1) := by decide +kernel
theorem dL_keeps_26 : decode cL_keeps 26 = .ok (.iconst 3, 1) := by decide +kernel
theorem dL_keeps_27 : decode cL_keeps 27 = .ok (.iaload, 1) := by decide +kernel
theorem dL_keeps_28 : decode cL_keeps 28 = .ok (.iastore, 1) := by decide +kernel
theorem dL_keeps_29 : decode cL_keeps 29 = .ok (.aload 5, 2) := by decide +kernel
theorem dL_keeps_31 : decode cL_keeps 31 = .ok (.iload 7, 2) := by decide +kernel
theorem dL_keeps_33 : decode cL_keeps 33 = .ok (.aload_n 0, 1) := by decide +kernel
theorem dL_keeps_34 : decode cL_keeps 34 = .ok (.iconst 4, 1) := by decide +kernel
theorem dL_keeps_35 : decode cL_keeps 35 = .ok (.iaload, 1) := by decide +kernel
theorem dL_keeps_36 : decode cL_keeps 36 = .ok (.bipush 8, 2) := by decide +kernel
theorem dL_keeps_38 : decode cL_keeps 38 = .ok (.aload_n 0, 1) := by decide +kernel
theorem dL_keeps_39 : decode cL_keeps 39 = .ok (.iconst 5, 1) := by decide +kernel
theorem dL_keeps_40 : decode cL_keeps 40 = .ok (.iaload, 1) := by decide +kernel
theorem dL_keeps_41 : decode cL_keeps 41 = .ok (.imul, 1) := by decide +kernel
theorem dL_keeps_42 : decode cL_keeps 42 = .ok (.iadd, 1) := by decide +kernel
theorem dL_keeps_43 : decode cL_keeps 43 = .ok (.iastore, 1) := by decide +kernel
theorem dL_keeps_44 : decode cL_keeps 44 = .ok (.aload 6, 2) := by decide +kernel
theorem dL_keeps_46 : decode cL_keeps 46 = .ok (.iload 7, 2) := by decide +kernel
theorem dL_keeps_48 : decode cL_keeps 48 = .ok (.aload_n 0, 1) := by decide +kernel
theorem dL_keeps_49 : decode cL_keeps 49 = .ok (.bipush 6, 2) := by decide +kernel
theorem dL_keeps_51 : decode cL_keeps 51 = .ok (.iaload, 1) := by decide +kernel
theorem dL_keeps_52 : decode cL_keeps 52 = .ok (.iastore, 1) := by decide +kernel
theorem dL_keeps_53 : decode cL_keeps 53 = .ok (.return_, 1) := by decide +kernel
theorem dL_works_0 : decode cL_works 0 = .ok (.aload 5, 2) := by decide +kernel
theorem dL_works_2 : decode cL_works 2 = .ok (.aload 6, 2) := by decide +kernel
theorem dL_works_4 : decode cL_works 4 = .ok (.aload 7, 2) := by decide +kernel
theorem dL_works_6 : decode cL_works 6 = .ok (.aload 8, 2) := by decide +kernel
theorem dL_works_8 : decode cL_works 8 = .ok (.aload 9, 2) := by decide +kernel
theorem dL_works_10 : decode cL_works 10 = .ok (.aload 10, 2) := by decide +kernel
theorem dL_works_12 : decode cL_works 12 = .ok (.aload 11, 2) := by decide +kernel
theorem dL_works_14 : decode cL_works 14 = .ok (.iload 12, 2) := by decide +kernel
theorem dL_works_16 : decode cL_works 16 = .ok (.invokestatic 39, 3) := by decide +kernel
theorem dL_works_19 : decode cL_works 19 = .ok (.iload 12, 2) := by decide +kernel
theorem dL_works_21 : decode cL_works 21 = .ok (.istore 13, 2) := by decide +kernel
theorem dL_works_23 : decode cL_works 23 = .ok (.iload 13, 2) := by decide +kernel
theorem dL_works_25 : decode cL_works 25 = .ok (.aload_n 0, 1) := by decide +kernel
theorem dL_works_26 : decode cL_works 26 = .ok (.iconst 3, 1) := by decide +kernel
theorem dL_works_27 : decode cL_works 27 = .ok (.iaload, 1) := by decide +kernel
theorem dL_works_28 : decode cL_works 28 = .ok (.if_icmp .gt 99, 3) := by decide +kernel
theorem dL_works_31 : decode cL_works 31 = .ok (.aload 5, 2) := by decide +kernel
theorem dL_works_33 : decode cL_works 33 = .ok (.aload 6, 2) := by decide +kernel
theorem dL_works_35 : decode cL_works 35 = .ok (.aload 7, 2) := by decide +kernel
theorem dL_works_37 : decode cL_works 37 = .ok (.aload 8, 2) := by decide +kernel
theorem dL_works_39 : decode cL_works 39 = .ok (.aload 9, 2) := by decide +kernel
theorem dL_works_41 : decode cL_works 41 = .ok (.aload 10, 2) := by decide +kernel
theorem dL_works_43 : decode cL_works 43 = .ok (.aload 11, 2) := by decide +kernel
theorem dL_works_45 : decode cL_works 45 = .ok (.iload 13, 2) := by decide +kernel
theorem dL_works_47 : decode cL_works 47 = .ok (.invokestatic 43, 3) := by decide +kernel
theorem dL_works_50 : decode cL_works 50 = .ok (.iconst 0, 1) := by decide +kernel
theorem dL_works_51 : decode cL_works 51 = .ok (.istore 14, 2) := by decide +kernel
theorem dL_works_53 : decode cL_works 53 = .ok (.iload 14, 2) := by decide +kernel
theorem dL_works_55 : decode cL_works 55 = .ok (.aload_n 0, 1) := by decide +kernel
theorem dL_works_56 : decode cL_works 56 = .ok (.iconst 4, 1) := by decide +kernel
theorem dL_works_57 : decode cL_works 57 = .ok (.iaload, 1) := by decide +kernel
theorem dL_works_58 : decode cL_works 58 = .ok (.if_icmp .ge 47, 3) := by decide +kernel
theorem dL_works_61 : decode cL_works 61 = .ok (.aload_n 1, 1) := by decide +kernel
theorem dL_works_62 : decode cL_works 62 = .ok (.iload 14, 2) := by decide +kernel
theorem dL_works_64 : decode cL_works 64 = .ok (.iaload, 1) := by decide +kernel
theorem dL_works_65 : decode cL_works 65 = .ok (.iload 13, 2) := by decide +kernel
theorem dL_works_67 : decode cL_works 67 = .ok (.if_icmp .ne 32, 3) := by decide +kernel
theorem dL_works_70 : decode cL_works 70 = .ok (.aload 4, 2) := by decide +kernel
theorem dL_works_72 : decode cL_works 72 = .ok (.iload 14, 2) := by decide +kernel
theorem dL_works_74 : decode cL_works 74 = .ok (.aload_n 0, 1) := by decide +kernel
theorem dL_works_75 : decode cL_works 75 = .ok (.aload 5, 2) := by decide +kernel
theorem dL_works_77 : decode cL_works 77 = .ok (.aload_n 2, 1) := by decide +kernel
theorem dL_works_78 : decode cL_works 78 = .ok (.iload 14, 2) := by decide +kernel
theorem dL_works_80 : decode cL_works 80 = .ok (.iaload, 1) := by decide +kernel
theorem dL_works_81 : decode cL_works 81 = .ok (.aload_n 3, 1) := by decide +kernel
theorem dL_works_82 : decode cL_works 82 = .ok (.iload 14, 2) := by decide +kernel
theorem dL_works_84 : decode cL_works 84 = .ok (.iaload, 1) := by decide +kernel
theorem dL_works_85 : decode cL_works 85 = .ok (.iload 13, 2) := by decide +kernel
theorem dL_works_87 : decode cL_works 87 = .ok (.invokestatic 46, 3) := by decide +kernel
theorem dL_works_90 : decode cL_works 90 = .ok (.ifCond .eq 7, 3) := by decide +kernel
theorem dL_works_93 : decode cL_works 93 = .ok (.iconst 1, 1) := by decide +kernel
theorem dL_works_94 : decode cL_works 94 = .ok (.goto 4, 3) := by decide +kernel
theorem dL_works_97 : decode cL_works 97 = .ok (.iconst 0, 1) := by decide +kernel
theorem dL_works_98 : decode cL_works 98 = .ok (.iastore, 1) := by decide +kernel
theorem dL_works_99 : decode cL_works 99 = .ok (.iinc 14 1, 3) := by decide +kernel
theorem dL_works_102 : decode cL_works 102 = .ok (.goto (-49), 3) := by decide +kernel
theorem dL_works_105 : decode cL_works 105 = .ok (.iload 13, 2) := by decide +kernel
theorem dL_works_107 : decode cL_works 107 = .ok (.aload_n 0, 1) := by decide +kernel
theorem dL_works_108 : decode cL_works 108 = .ok (.iconst 3, 1) := by decide +kernel
theorem dL_works_109 : decode cL_works 109 = .ok (.iaload, 1) := by decide +kernel
theorem dL_works_110 : decode cL_works 110 = .ok (.if_icmp .ge 11, 3) := by decide +kernel
theorem dL_works_113 : decode cL_works 113 = .ok (.aload_n 0, 1) := by decide +kernel
theorem dL_works_114 : decode cL_works 114 = .ok (.aload 5, 2) := by decide +kernel
theorem dL_works_116 : decode cL_works 116 = .ok (.iload 13, 2) := by decide +kernel
theorem dL_works_118 : decode cL_works 118 = .ok (.invokestatic 50, 3) := by decide +kernel
theorem dL_works_121 : decode cL_works 121 = .ok (.iinc 13 1, 3) := by decide +kernel
theorem dL_works_124 : decode cL_works 124 = .ok (.goto (-101), 3) := by decide +kernel
theorem dL_works_127 : decode cL_works 127 = .ok (.return_, 1) := by decide +kernel
theorem dL_lapses_0 : decode cL_lapses 0 = .ok (.bipush 7, 2) := by decide +kernel
theorem dL_lapses_2 : decode cL_lapses 2 = .ok (.newarray .int, 2) := by decide +kernel
theorem dL_lapses_4 : decode cL_lapses 4 = .ok (.astore 4, 2) := by decide +kernel
theorem dL_lapses_6 : decode cL_lapses 6 = .ok (.iconst 0, 1) := by decide +kernel
theorem dL_lapses_7 : decode cL_lapses 7 = .ok (.istore 5, 2) := by decide +kernel
theorem dL_lapses_9 : decode cL_lapses 9 = .ok (.iload 5, 2) := by decide +kernel
theorem dL_lapses_11 : decode cL_lapses 11 = .ok (.bipush 7, 2) := by decide +kernel
theorem dL_lapses_13 : decode cL_lapses 13 = .ok (.if_icmp .ge 18, 3) := by decide +kernel
theorem dL_lapses_16 : decode cL_lapses 16 = .ok (.aload 4, 2) := by decide +kernel
theorem dL_lapses_18 : decode cL_lapses 18 = .ok (.iload 5, 2) := by decide +kernel
theorem dL_lapses_20 : decode cL_lapses 20 = .ok (.aload_n 1, 1) := by decide +kernel
theorem dL_lapses_21 : decode cL_lapses 21 = .ok (.iload 5, 2) := by decide +kernel
theorem dL_lapses_23 : decode cL_lapses 23 = .ok (.iaload, 1) := by decide +kernel
theorem dL_lapses_24 : decode cL_lapses 24 = .ok (.iastore, 1) := by decide +kernel
theorem dL_lapses_25 : decode cL_lapses 25 = .ok (.iinc 5 1, 3) := by decide +kernel
theorem dL_lapses_28 : decode cL_lapses 28 = .ok (.goto (-19), 3) := by decide +kernel
theorem dL_lapses_31 : decode cL_lapses 31 = .ok (.iload_n 3, 1) := by decide +kernel
theorem dL_lapses_32 : decode cL_lapses 32 = .ok (.ifCond .le 21, 3) := by decide +kernel
theorem dL_lapses_35 : decode cL_lapses 35 = .ok (.aload_n 0, 1) := by decide +kernel
theorem dL_lapses_36 : decode cL_lapses 36 = .ok (.aload 4, 2) := by decide +kernel
theorem dL_lapses_38 : decode cL_lapses 38 = .ok (.iconst 0, 1) := by decide +kernel
theorem dL_lapses_39 : decode cL_lapses 39 = .ok (.iload_n 3, 1) := by decide +kernel
theorem dL_lapses_40 : decode cL_lapses 40 = .ok (.aload_n 0, 1) := by decide +kernel
theorem dL_lapses_41 : decode cL_lapses 41 = .ok (.iconst 3, 1) := by decide +kernel
theorem dL_lapses_42 : decode cL_lapses 42 = .ok (.iaload, 1) := by decide +kernel
theorem dL_lapses_43 : decode cL_lapses 43 = .ok (.invokestatic 46, 3) := by decide +kernel
theorem dL_lapses_46 : decode cL_lapses 46 = .ok (.ifCond .eq 7, 3) := by decide +kernel
theorem dL_lapses_49 : decode cL_lapses 49 = .ok (.iconst 1, 1) := by decide +kernel
theorem dL_lapses_50 : decode cL_lapses 50 = .ok (.goto 4, 3) := by decide +kernel
theorem dL_lapses_53 : decode cL_lapses 53 = .ok (.iconst 0, 1) := by decide +kernel
theorem dL_lapses_54 : decode cL_lapses 54 = .ok (.istore 5, 2) := by decide +kernel
theorem dL_lapses_56 : decode cL_lapses 56 = .ok (.iconst 0, 1) := by decide +kernel
theorem dL_lapses_57 : decode cL_lapses 57 = .ok (.istore 6, 2) := by decide +kernel
theorem dL_lapses_59 : decode cL_lapses 59 = .ok (.iload 6, 2) := by decide +kernel
theorem dL_lapses_61 : decode cL_lapses 61 = .ok (.iload_n 2, 1) := by decide +kernel
theorem dL_lapses_62 : decode cL_lapses 62 = .ok (.if_icmp .ge 38, 3) := by decide +kernel
theorem dL_lapses_65 : decode cL_lapses 65 = .ok (.aload_n 0, 1) := by decide +kernel
theorem dL_lapses_66 : decode cL_lapses 66 = .ok (.aload 4, 2) := by decide +kernel
theorem dL_lapses_68 : decode cL_lapses 68 = .ok (.aload_n 0, 1) := by decide +kernel
theorem dL_lapses_69 : decode cL_lapses 69 = .ok (.iconst 3, 1) := by decide +kernel
theorem dL_lapses_70 : decode cL_lapses 70 = .ok (.iaload, 1) := by decide +kernel
theorem dL_lapses_71 : decode cL_lapses 71 = .ok (.iload 6, 2) := by decide +kernel
theorem dL_lapses_73 : decode cL_lapses 73 = .ok (.iadd, 1) := by decide +kernel
theorem dL_lapses_74 : decode cL_lapses 74 = .ok (.invokestatic 50, 3) := by decide +kernel
theorem dL_lapses_77 : decode cL_lapses 77 = .ok (.aload 4, 2) := by decide +kernel
theorem dL_lapses_79 : decode cL_lapses 79 = .ok (.iconst 0, 1) := by decide +kernel
theorem dL_lapses_80 : decode cL_lapses 80 = .ok (.iaload, 1) := by decide +kernel
theorem dL_lapses_81 : decode cL_lapses 81 = .ok (.iconst 2, 1) := by decide +kernel
theorem dL_lapses_82 : decode cL_lapses 82 = .ok (.if_icmp .ne 12, 3) := by decide +kernel
theorem dL_lapses_85 : decode cL_lapses 85 = .ok (.aload_n 0, 1) := by decide +kernel
theorem dL_lapses_86 : decode cL_lapses 86 = .ok (.iconst 3, 1) := by decide +kernel
theorem dL_lapses_87 : decode cL_lapses 87 = .ok (.iaload, 1) := by decide +kernel
theorem dL_lapses_88 : decode cL_lapses 88 = .ok (.iload 6, 2) := by decide +kernel
theorem dL_lapses_90 : decode cL_lapses 90 = .ok (.iadd, 1) := by decide +kernel
theorem dL_lapses_91 : decode cL_lapses 91 = .ok (.iconst 1, 1) := by decide +kernel
theorem dL_lapses_92 : decode cL_lapses 92 = .ok (.iadd, 1) := by decide +kernel
theorem dL_lapses_93 : decode cL_lapses 93 = .ok (.ireturn, 1) := by decide +kernel
theorem dL_lapses_94 : decode cL_lapses 94 = .ok (.iinc 6 1, 3) := by decide +kernel
theorem dL_lapses_97 : decode cL_lapses 97 = .ok (.goto (-38), 3) := by decide +kernel
theorem dL_lapses_100 : decode cL_lapses 100 = .ok (.iconst (-1), 1) := by decide +kernel
theorem dL_lapses_101 : decode cL_lapses 101 = .ok (.ireturn, 1) := by decide +kernel
theorem dL_told_0 : decode cL_told 0 = .ok (.aload_n 0, 1) := by decide +kernel
theorem dL_told_1 : decode cL_told 1 = .ok (.iload_n 1, 1) := by decide +kernel
theorem dL_told_2 : decode cL_told 2 = .ok (.iload_n 2, 1) := by decide +kernel
theorem dL_told_3 : decode cL_told 3 = .ok (.iload_n 3, 1) := by decide +kernel
theorem dL_told_4 : decode cL_told 4 = .ok (.invokevirtual 54, 3) := by decide +kernel
theorem dL_told_7 : decode cL_told 7 = .ok (.ifCond .eq 7, 3) := by decide +kernel
theorem dL_told_10 : decode cL_told 10 = .ok (.iconst 1, 1) := by decide +kernel
theorem dL_told_11 : decode cL_told 11 = .ok (.goto 4, 3) := by decide +kernel
theorem dL_told_14 : decode cL_told 14 = .ok (.iconst 0, 1) := by decide +kernel
theorem dL_told_15 : decode cL_told 15 = .ok (.ireturn, 1) := by decide +kernel
theorem dL_told_16 : decode cL_told 16 = .ok (.astore 4, 2) := by decide +kernel
theorem dL_told_18 : decode cL_told 18 = .ok (.bipush (-13), 2) := by decide +kernel
theorem dL_told_20 : decode cL_told 20 = .ok (.ireturn, 1) := by decide +kernel
theorem dL_does_0 : decode cL_does 0 = .ok (.iload_n 1, 1) := by decide +kernel
theorem dL_does_1 : decode cL_does 1 = .ok (.ifCond .ne 11, 3) := by decide +kernel
theorem dL_does_4 : decode cL_does 4 = .ok (.aload_n 0, 1) := by decide +kernel
theorem dL_does_5 : decode cL_does 5 = .ok (.iload_n 2, 1) := by decide +kernel
theorem dL_does_6 : decode cL_does 6 = .ok (.invokevirtual 62, 3) := by decide +kernel
theorem dL_does_9 : decode cL_does 9 = .ok (.goto 29, 3) := by decide +kernel
theorem dL_does_12 : decode cL_does 12 = .ok (.iload_n 1, 1) := by decide +kernel
theorem dL_does_13 : decode cL_does 13 = .ok (.iconst 1, 1) := by decide +kernel
theorem dL_does_14 : decode cL_does 14 = .ok (.if_icmp .ne 19, 3) := by decide +kernel
theorem dL_does_17 : decode cL_does 17 = .ok (.aload_n 0, 1) := by decide +kernel
theorem dL_does_18 : decode cL_does 18 = .ok (.iload_n 2, 1) := by decide +kernel
theorem dL_does_19 : decode cL_does 19 = .ok (.invokevirtual 65, 3) := by decide +kernel
theorem dL_does_22 : decode cL_does 22 = .ok (.ifCond .eq 7, 3) := by decide +kernel
theorem dL_does_25 : decode cL_does 25 = .ok (.iconst 1, 1) := by decide +kernel
theorem dL_does_26 : decode cL_does 26 = .ok (.goto 12, 3) := by decide +kernel
theorem dL_does_29 : decode cL_does 29 = .ok (.iconst 0, 1) := by decide +kernel
theorem dL_does_30 : decode cL_does 30 = .ok (.goto 8, 3) := by decide +kernel
theorem dL_does_33 : decode cL_does 33 = .ok (.aload_n 0, 1) := by decide +kernel
theorem dL_does_34 : decode cL_does 34 = .ok (.iload_n 2, 1) := by decide +kernel
theorem dL_does_35 : decode cL_does 35 = .ok (.invokevirtual 69, 3) := by decide +kernel
theorem dL_does_38 : decode cL_does 38 = .ok (.ireturn, 1) := by decide +kernel
theorem dL_does_39 : decode cL_does 39 = .ok (.astore_n 3, 1) := by decide +kernel
theorem dL_does_40 : decode cL_does 40 = .ok (.bipush (-11), 2) := by decide +kernel
theorem dL_does_42 : decode cL_does 42 = .ok (.ireturn, 1) := by decide +kernel
theorem dL_does_43 : decode cL_does 43 = .ok (.astore_n 3, 1) := by decide +kernel
theorem dL_does_44 : decode cL_does 44 = .ok (.bipush (-13), 2) := by decide +kernel
theorem dL_does_46 : decode cL_does 46 = .ok (.ireturn, 1) := by decide +kernel
