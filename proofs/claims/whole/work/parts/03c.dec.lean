theorem dX9_init_0 : decode cX9_init 0 = .ok (.aload_n 0, 1) := by decide +kernel
theorem dX9_init_1 : decode cX9_init 1 = .ok (.invokespecial 1, 3) := by decide +kernel
theorem dX9_init_4 : decode cX9_init 4 = .ok (.aload_n 0, 1) := by decide +kernel
theorem dX9_init_5 : decode cX9_init 5 = .ok (.sipush 200, 3) := by decide +kernel
theorem dX9_init_8 : decode cX9_init 8 = .ok (.newarray .int, 2) := by decide +kernel
theorem dX9_init_10 : decode cX9_init 10 = .ok (.putfield 7, 3) := by decide +kernel
theorem dX9_init_13 : decode cX9_init 13 = .ok (.aload_n 0, 1) := by decide +kernel
theorem dX9_init_14 : decode cX9_init 14 = .ok (.bipush 38, 2) := by decide +kernel
theorem dX9_init_16 : decode cX9_init 16 = .ok (.newarray .int, 2) := by decide +kernel
theorem dX9_init_18 : decode cX9_init 18 = .ok (.putfield 13, 3) := by decide +kernel
theorem dX9_init_21 : decode cX9_init 21 = .ok (.aload_n 0, 1) := by decide +kernel
theorem dX9_init_22 : decode cX9_init 22 = .ok (.bipush 38, 2) := by decide +kernel
theorem dX9_init_24 : decode cX9_init 24 = .ok (.newarray .int, 2) := by decide +kernel
theorem dX9_init_26 : decode cX9_init 26 = .ok (.putfield 16, 3) := by decide +kernel
theorem dX9_init_29 : decode cX9_init 29 = .ok (.aload_n 0, 1) := by decide +kernel
theorem dX9_init_30 : decode cX9_init 30 = .ok (.bipush 6, 2) := by decide +kernel
theorem dX9_init_32 : decode cX9_init 32 = .ok (.newarray .int, 2) := by decide +kernel
theorem dX9_init_34 : decode cX9_init 34 = .ok (.putfield 19, 3) := by decide +kernel
theorem dX9_init_37 : decode cX9_init 37 = .ok (.aload_n 0, 1) := by decide +kernel
theorem dX9_init_38 : decode cX9_init 38 = .ok (.bipush 23, 2) := by decide +kernel
theorem dX9_init_40 : decode cX9_init 40 = .ok (.newarray .int, 2) := by decide +kernel
theorem dX9_init_42 : decode cX9_init 42 = .ok (.putfield 22, 3) := by decide +kernel
theorem dX9_init_45 : decode cX9_init 45 = .ok (.aload_n 0, 1) := by decide +kernel
theorem dX9_init_46 : decode cX9_init 46 = .ok (.sipush 184, 3) := by decide +kernel
theorem dX9_init_49 : decode cX9_init 49 = .ok (.newarray .int, 2) := by decide +kernel
theorem dX9_init_51 : decode cX9_init 51 = .ok (.putfield 25, 3) := by decide +kernel
theorem dX9_init_54 : decode cX9_init 54 = .ok (.aload_n 0, 1) := by decide +kernel
theorem dX9_init_55 : decode cX9_init 55 = .ok (.bipush 46, 2) := by decide +kernel
theorem dX9_init_57 : decode cX9_init 57 = .ok (.newarray .int, 2) := by decide +kernel
theorem dX9_init_59 : decode cX9_init 59 = .ok (.putfield 28, 3) := by decide +kernel
theorem dX9_init_62 : decode cX9_init 62 = .ok (.aload_n 0, 1) := by decide +kernel
theorem dX9_init_63 : decode cX9_init 63 = .ok (.bipush 23, 2) := by decide +kernel
theorem dX9_init_65 : decode cX9_init 65 = .ok (.newarray .int, 2) := by decide +kernel
theorem dX9_init_67 : decode cX9_init 67 = .ok (.putfield 31, 3) := by decide +kernel
theorem dX9_init_70 : decode cX9_init 70 = .ok (.aload_n 0, 1) := by decide +kernel
theorem dX9_init_71 : decode cX9_init 71 = .ok (.invokevirtual 34, 3) := by decide +kernel
theorem dX9_init_74 : decode cX9_init 74 = .ok (.aload_n 0, 1) := by decide +kernel
theorem dX9_init_75 : decode cX9_init 75 = .ok (.bipush 20, 2) := by decide +kernel
theorem dX9_init_77 : decode cX9_init 77 = .ok (.iconst 3, 1) := by decide +kernel
theorem dX9_init_78 : decode cX9_init 78 = .ok (.invokevirtual 37, 3) := by decide +kernel
theorem dX9_init_81 : decode cX9_init 81 = .ok (.aload_n 0, 1) := by decide +kernel
theorem dX9_init_82 : decode cX9_init 82 = .ok (.bipush 35, 2) := by decide +kernel
theorem dX9_init_84 : decode cX9_init 84 = .ok (.iconst 2, 1) := by decide +kernel
theorem dX9_init_85 : decode cX9_init 85 = .ok (.invokevirtual 37, 3) := by decide +kernel
theorem dX9_init_88 : decode cX9_init 88 = .ok (.aload_n 0, 1) := by decide +kernel
theorem dX9_init_89 : decode cX9_init 89 = .ok (.bipush 40, 2) := by decide +kernel
theorem dX9_init_91 : decode cX9_init 91 = .ok (.iconst 2, 1) := by decide +kernel
theorem dX9_init_92 : decode cX9_init 92 = .ok (.invokevirtual 37, 3) := by decide +kernel
theorem dX9_init_95 : decode cX9_init 95 = .ok (.aload_n 0, 1) := by decide +kernel
theorem dX9_init_96 : decode cX9_init 96 = .ok (.bipush 30, 2) := by decide +kernel
theorem dX9_init_98 : decode cX9_init 98 = .ok (.iconst 4, 1) := by decide +kernel
theorem dX9_init_99 : decode cX9_init 99 = .ok (.invokevirtual 37, 3) := by decide +kernel
theorem dX9_init_102 : decode cX9_init 102 = .ok (.aload_n 0, 1) := by decide +kernel
theorem dX9_init_103 : decode cX9_init 103 = .ok (.bipush 15, 2) := by decide +kernel
theorem dX9_init_105 : decode cX9_init 105 = .ok (.bipush 6, 2) := by decide +kernel
theorem dX9_init_107 : decode cX9_init 107 = .ok (.invokevirtual 37, 3) := by decide +kernel
theorem dX9_init_110 : decode cX9_init 110 = .ok (.aload_n 0, 1) := by decide +kernel
theorem dX9_init_111 : decode cX9_init 111 = .ok (.iconst 0, 1) := by decide +kernel
theorem dX9_init_112 : decode cX9_init 112 = .ok (.bipush 25, 2) := by decide +kernel
theorem dX9_init_114 : decode cX9_init 114 = .ok (.iconst 1, 1) := by decide +kernel
theorem dX9_init_115 : decode cX9_init 115 = .ok (.bipush 10, 2) := by decide +kernel
theorem dX9_init_117 : decode cX9_init 117 = .ok (.invokevirtual 41, 3) := by decide +kernel
theorem dX9_init_120 : decode cX9_init 120 = .ok (.aload_n 0, 1) := by decide +kernel
theorem dX9_init_121 : decode cX9_init 121 = .ok (.iconst 1, 1) := by decide +kernel
theorem dX9_init_122 : decode cX9_init 122 = .ok (.bipush 15, 2) := by decide +kernel
theorem dX9_init_124 : decode cX9_init 124 = .ok (.iconst 0, 1) := by decide +kernel
theorem dX9_init_125 : decode cX9_init 125 = .ok (.bipush 6, 2) := by decide +kernel
theorem dX9_init_127 : decode cX9_init 127 = .ok (.invokevirtual 41, 3) := by decide +kernel
theorem dX9_init_130 : decode cX9_init 130 = .ok (.aload_n 0, 1) := by decide +kernel
theorem dX9_init_131 : decode cX9_init 131 = .ok (.iconst 2, 1) := by decide +kernel
theorem dX9_init_132 : decode cX9_init 132 = .ok (.bipush 30, 2) := by decide +kernel
theorem dX9_init_134 : decode cX9_init 134 = .ok (.iconst 2, 1) := by decide +kernel
theorem dX9_init_135 : decode cX9_init 135 = .ok (.bipush 8, 2) := by decide +kernel
theorem dX9_init_137 : decode cX9_init 137 = .ok (.invokevirtual 41, 3) := by decide +kernel
theorem dX9_init_140 : decode cX9_init 140 = .ok (.aload_n 0, 1) := by decide +kernel
theorem dX9_init_141 : decode cX9_init 141 = .ok (.iconst 3, 1) := by decide +kernel
theorem dX9_init_142 : decode cX9_init 142 = .ok (.bipush 20, 2) := by decide +kernel
theorem dX9_init_144 : decode cX9_init 144 = .ok (.iconst 3, 1) := by decide +kernel
theorem dX9_init_145 : decode cX9_init 145 = .ok (.bipush 12, 2) := by decide +kernel
theorem dX9_init_147 : decode cX9_init 147 = .ok (.invokevirtual 41, 3) := by decide +kernel
theorem dX9_init_150 : decode cX9_init 150 = .ok (.aload_n 0, 1) := by decide +kernel
theorem dX9_init_151 : decode cX9_init 151 = .ok (.iconst 0, 1) := by decide +kernel
theorem dX9_init_152 : decode cX9_init 152 = .ok (.bipush 18, 2) := by decide +kernel
theorem dX9_init_154 : decode cX9_init 154 = .ok (.iconst 4, 1) := by decide +kernel
theorem dX9_init_155 : decode cX9_init 155 = .ok (.bipush 9, 2) := by decide +kernel
theorem dX9_init_157 : decode cX9_init 157 = .ok (.invokevirtual 41, 3) := by decide +kernel
theorem dX9_init_160 : decode cX9_init 160 = .ok (.aload_n 0, 1) := by decide +kernel
theorem dX9_init_161 : decode cX9_init 161 = .ok (.iconst 2, 1) := by decide +kernel
theorem dX9_init_162 : decode cX9_init 162 = .ok (.bipush 22, 2) := by decide +kernel
theorem dX9_init_164 : decode cX9_init 164 = .ok (.iconst 1, 1) := by decide +kernel
theorem dX9_init_165 : decode cX9_init 165 = .ok (.bipush 7, 2) := by decide +kernel
theorem dX9_init_167 : decode cX9_init 167 = .ok (.invokevirtual 41, 3) := by decide +kernel
theorem dX9_init_170 : decode cX9_init 170 = .ok (.aload_n 0, 1) := by decide +kernel
theorem dX9_init_171 : decode cX9_init 171 = .ok (.getfield 16, 3) := by decide +kernel
theorem dX9_init_174 : decode cX9_init 174 = .ok (.iconst 2, 1) := by decide +kernel
theorem dX9_init_175 : decode cX9_init 175 = .ok (.iconst 4, 1) := by decide +kernel
theorem dX9_init_176 : decode cX9_init 176 = .ok (.iastore, 1) := by decide +kernel
theorem dX9_init_177 : decode cX9_init 177 = .ok (.aload_n 0, 1) := by decide +kernel
theorem dX9_init_178 : decode cX9_init 178 = .ok (.getfield 16, 3) := by decide +kernel
theorem dX9_init_181 : decode cX9_init 181 = .ok (.iconst 3, 1) := by decide +kernel
theorem dX9_init_182 : decode cX9_init 182 = .ok (.iconst 4, 1) := by decide +kernel
theorem dX9_init_183 : decode cX9_init 183 = .ok (.iastore, 1) := by decide +kernel
theorem dX9_init_184 : decode cX9_init 184 = .ok (.aload_n 0, 1) := by decide +kernel
theorem dX9_init_185 : decode cX9_init 185 = .ok (.bipush 16, 2) := by decide +kernel
theorem dX9_init_187 : decode cX9_init 187 = .ok (.putfield 45, 3) := by decide +kernel
theorem dX9_init_190 : decode cX9_init 190 = .ok (.aload_n 0, 1) := by decide +kernel
theorem dX9_init_191 : decode cX9_init 191 = .ok (.invokevirtual 49, 3) := by decide +kernel
theorem dX9_init_194 : decode cX9_init 194 = .ok (.return_, 1) := by decide +kernel
theorem dX9_in_0 : decode cX9_in 0 = .ok (.iload_n 0, 1) := by decide +kernel
theorem dX9_in_1 : decode cX9_in 1 = .ok (.iload_n 1, 1) := by decide +kernel
theorem dX9_in_2 : decode cX9_in 2 = .ok (.if_icmp .lt 12, 3) := by decide +kernel
theorem dX9_in_5 : decode cX9_in 5 = .ok (.iload_n 0, 1) := by decide +kernel
theorem dX9_in_6 : decode cX9_in 6 = .ok (.iload_n 2, 1) := by decide +kernel
theorem dX9_in_7 : decode cX9_in 7 = .ok (.if_icmp .gt 7, 3) := by decide +kernel
theorem dX9_in_10 : decode cX9_in 10 = .ok (.iconst 1, 1) := by decide +kernel
theorem dX9_in_11 : decode cX9_in 11 = .ok (.goto 4, 3) := by decide +kernel
theorem dX9_in_14 : decode cX9_in 14 = .ok (.iconst 0, 1) := by decide +kernel
theorem dX9_in_15 : decode cX9_in 15 = .ok (.ireturn, 1) := by decide +kernel
theorem dX9_has_0 : decode cX9_has 0 = .ok (.iload_n 0, 1) := by decide +kernel
theorem dX9_has_1 : decode cX9_has 1 = .ok (.iload_n 1, 1) := by decide +kernel
theorem dX9_has_2 : decode cX9_has 2 = .ok (.ishr, 1) := by decide +kernel
theorem dX9_has_3 : decode cX9_has 3 = .ok (.iconst 1, 1) := by decide +kernel
theorem dX9_has_4 : decode cX9_has 4 = .ok (.iand, 1) := by decide +kernel
theorem dX9_has_5 : decode cX9_has 5 = .ok (.iconst 1, 1) := by decide +kernel
theorem dX9_has_6 : decode cX9_has 6 = .ok (.if_icmp .ne 7, 3) := by decide +kernel
theorem dX9_has_9 : decode cX9_has 9 = .ok (.iconst 1, 1) := by decide +kernel
theorem dX9_has_10 : decode cX9_has 10 = .ok (.goto 4, 3) := by decide +kernel
theorem dX9_has_13 : decode cX9_has 13 = .ok (.iconst 0, 1) := by decide +kernel
theorem dX9_has_14 : decode cX9_has 14 = .ok (.ireturn, 1) := by decide +kernel
theorem dX9_ones_0 : decode cX9_ones 0 = .ok (.iconst 0, 1) := by decide +kernel
theorem dX9_ones_1 : decode cX9_ones 1 = .ok (.istore_n 1, 1) := by decide +kernel
theorem dX9_ones_2 : decode cX9_ones 2 = .ok (.iconst 0, 1) := by decide +kernel
theorem dX9_ones_3 : decode cX9_ones 3 = .ok (.istore_n 2, 1) := by decide +kernel
theorem dX9_ones_4 : decode cX9_ones 4 = .ok (.iload_n 2, 1) := by decide +kernel
theorem dX9_ones_5 : decode cX9_ones 5 = .ok (.bipush 8, 2) := by decide +kernel
theorem dX9_ones_7 : decode cX9_ones 7 = .ok (.if_icmp .ge 17, 3) := by decide +kernel
theorem dX9_ones_10 : decode cX9_ones 10 = .ok (.iload_n 1, 1) := by decide +kernel
theorem dX9_ones_11 : decode cX9_ones 11 = .ok (.iload_n 0, 1) := by decide +kernel
theorem dX9_ones_12 : decode cX9_ones 12 = .ok (.iload_n 2, 1) := by decide +kernel
theorem dX9_ones_13 : decode cX9_ones 13 = .ok (.ishr, 1) := by decide +kernel
theorem dX9_ones_14 : decode cX9_ones 14 = .ok (.iconst 1, 1) := by decide +kernel
theorem dX9_ones_15 : decode cX9_ones 15 = .ok (.iand, 1) := by decide +kernel
theorem dX9_ones_16 : decode cX9_ones 16 = .ok (.iadd, 1) := by decide +kernel
theorem dX9_ones_17 : decode cX9_ones 17 = .ok (.istore_n 1, 1) := by decide +kernel
theorem dX9_ones_18 : decode cX9_ones 18 = .ok (.iinc 2 1, 3) := by decide +kernel
theorem dX9_ones_21 : decode cX9_ones 21 = .ok (.goto (-17), 3) := by decide +kernel
theorem dX9_ones_24 : decode cX9_ones 24 = .ok (.iload_n 1, 1) := by decide +kernel
theorem dX9_ones_25 : decode cX9_ones 25 = .ok (.ireturn, 1) := by decide +kernel
theorem dX9_isBay_0 : decode cX9_isBay 0 = .ok (.iload_n 1, 1) := by decide +kernel
theorem dX9_isBay_1 : decode cX9_isBay 1 = .ok (.iconst 0, 1) := by decide +kernel
theorem dX9_isBay_2 : decode cX9_isBay 2 = .ok (.aload_n 0, 1) := by decide +kernel
theorem dX9_isBay_3 : decode cX9_isBay 3 = .ok (.getfield 13, 3) := by decide +kernel
theorem dX9_isBay_6 : decode cX9_isBay 6 = .ok (.iconst 0, 1) := by decide +kernel
theorem dX9_isBay_7 : decode cX9_isBay 7 = .ok (.iaload, 1) := by decide +kernel
theorem dX9_isBay_8 : decode cX9_isBay 8 = .ok (.iconst 1, 1) := by decide +kernel
theorem dX9_isBay_9 : decode cX9_isBay 9 = .ok (.isub, 1) := by decide +kernel
theorem dX9_isBay_10 : decode cX9_isBay 10 = .ok (.invokestatic 52, 3) := by decide +kernel
theorem dX9_isBay_13 : decode cX9_isBay 13 = .ok (.ireturn, 1) := by decide +kernel
theorem dX9_isButtress_0 : decode cX9_isButtress 0 = .ok (.iload_n 1, 1) := by decide +kernel
theorem dX9_isButtress_1 : decode cX9_isButtress 1 = .ok (.iconst 0, 1) := by decide +kernel
theorem dX9_isButtress_2 : decode cX9_isButtress 2 = .ok (.aload_n 0, 1) := by decide +kernel
theorem dX9_isButtress_3 : decode cX9_isButtress 3 = .ok (.getfield 13, 3) := by decide +kernel
theorem dX9_isButtress_6 : decode cX9_isButtress 6 = .ok (.iconst 1, 1) := by decide +kernel
theorem dX9_isButtress_7 : decode cX9_isButtress 7 = .ok (.iaload, 1) := by decide +kernel
theorem dX9_isButtress_8 : decode cX9_isButtress 8 = .ok (.iconst 1, 1) := by decide +kernel
theorem dX9_isButtress_9 : decode cX9_isButtress 9 = .ok (.isub, 1) := by decide +kernel
theorem dX9_isButtress_10 : decode cX9_isButtress 10 = .ok (.invokestatic 52, 3) := by decide +kernel
theorem dX9_isButtress_13 : decode cX9_isButtress 13 = .ok (.ireturn, 1) := by decide +kernel
theorem dX9_write_0 : decode cX9_write 0 = .ok (.iload_n 1, 1) := by decide +kernel
theorem dX9_write_1 : decode cX9_write 1 = .ok (.bipush 32, 2) := by decide +kernel
theorem dX9_write_3 : decode cX9_write 3 = .ok (.bipush 126, 2) := by decide +kernel
theorem dX9_write_5 : decode cX9_write 5 = .ok (.invokestatic 52, 3) := by decide +kernel
theorem dX9_write_8 : decode cX9_write 8 = .ok (.ifCond .ne 5, 3) := by decide +kernel
theorem dX9_write_11 : decode cX9_write 11 = .ok (.iconst (-1), 1) := by decide +kernel
theorem dX9_write_12 : decode cX9_write 12 = .ok (.ireturn, 1) := by decide +kernel
theorem dX9_write_13 : decode cX9_write 13 = .ok (.aload_n 0, 1) := by decide +kernel
theorem dX9_write_14 : decode cX9_write 14 = .ok (.getfield 56, 3) := by decide +kernel
theorem dX9_write_17 : decode cX9_write 17 = .ok (.sipush 200, 3) := by decide +kernel
theorem dX9_write_20 : decode cX9_write 20 = .ok (.if_icmp .ne 6, 3) := by decide +kernel
theorem dX9_write_23 : decode cX9_write 23 = .ok (.bipush (-3), 2) := by decide +kernel
theorem dX9_write_25 : decode cX9_write 25 = .ok (.ireturn, 1) := by decide +kernel
theorem dX9_write_26 : decode cX9_write 26 = .ok (.aload_n 0, 1) := by decide +kernel
theorem dX9_write_27 : decode cX9_write 27 = .ok (.getfield 7, 3) := by decide +kernel
theorem dX9_write_30 : decode cX9_write 30 = .ok (.aload_n 0, 1) := by decide +kernel
theorem dX9_write_31 : decode cX9_write 31 = .ok (.getfield 56, 3) := by decide +kernel
theorem dX9_write_34 : decode cX9_write 34 = .ok (.iload_n 1, 1) := by decide +kernel
theorem dX9_write_35 : decode cX9_write 35 = .ok (.iastore, 1) := by decide +kernel
theorem dX9_write_36 : decode cX9_write 36 = .ok (.aload_n 0, 1) := by decide +kernel
theorem dX9_write_37 : decode cX9_write 37 = .ok (.dup, 1) := by decide +kernel
theorem dX9_write_38 : decode cX9_write 38 = .ok (.getfield 56, 3) := by decide +kernel
theorem dX9_write_41 : decode cX9_write 41 = .ok (.iconst 1, 1) := by decide +kernel
theorem dX9_write_42 : decode cX9_write 42 = .ok (.iadd, 1) := by decide +kernel
theorem dX9_write_43 : decode cX9_write 43 = .ok (.putfield 56, 3) := by decide +kernel
theorem dX9_write_46 : decode cX9_write 46 = .ok (.aload_n 0, 1) := by decide +kernel
theorem dX9_write_47 : decode cX9_write 47 = .ok (.getfield 56, 3) := by decide +kernel
theorem dX9_write_50 : decode cX9_write 50 = .ok (.ireturn, 1) := by decide +kernel
theorem dX9_wipe_0 : decode cX9_wipe 0 = .ok (.aload_n 0, 1) := by decide +kernel
theorem dX9_wipe_1 : decode cX9_wipe 1 = .ok (.getfield 56, 3) := by decide +kernel
theorem dX9_wipe_4 : decode cX9_wipe 4 = .ok (.istore_n 1, 1) := by decide +kernel
theorem dX9_wipe_5 : decode cX9_wipe 5 = .ok (.aload_n 0, 1) := by decide +kernel
theorem dX9_wipe_6 : decode cX9_wipe 6 = .ok (.iconst 0, 1) := by decide +kernel
theorem dX9_wipe_7 : decode cX9_wipe 7 = .ok (.putfield 56, 3) := by decide +kernel
theorem dX9_wipe_10 : decode cX9_wipe 10 = .ok (.iload_n 1, 1) := by decide +kernel
theorem dX9_wipe_11 : decode cX9_wipe 11 = .ok (.ireturn, 1) := by decide +kernel
theorem dX9_letterAt_0 : decode cX9_letterAt 0 = .ok (.iload_n 1, 1) := by decide +kernel
theorem dX9_letterAt_1 : decode cX9_letterAt 1 = .ok (.aload_n 0, 1) := by decide +kernel
theorem dX9_letterAt_2 : decode cX9_letterAt 2 = .ok (.getfield 56, 3) := by decide +kernel
theorem dX9_letterAt_5 : decode cX9_letterAt 5 = .ok (.if_icmp .ge 12, 3) := by decide +kernel
theorem dX9_letterAt_8 : decode cX9_letterAt 8 = .ok (.aload_n 0, 1) := by decide +kernel
theorem dX9_letterAt_9 : decode cX9_letterAt 9 = .ok (.getfield 7, 3) := by decide +kernel
theorem dX9_letterAt_12 : decode cX9_letterAt 12 = .ok (.iload_n 1, 1) := by decide +kernel
theorem dX9_letterAt_13 : decode cX9_letterAt 13 = .ok (.iaload, 1) := by decide +kernel
theorem dX9_letterAt_14 : decode cX9_letterAt 14 = .ok (.goto 4, 3) := by decide +kernel
theorem dX9_letterAt_17 : decode cX9_letterAt 17 = .ok (.iconst (-1), 1) := by decide +kernel
theorem dX9_letterAt_18 : decode cX9_letterAt 18 = .ok (.ireturn, 1) := by decide +kernel
theorem dX9_isFigure_0 : decode cX9_isFigure 0 = .ok (.iload_n 0, 1) := by decide +kernel
theorem dX9_isFigure_1 : decode cX9_isFigure 1 = .ok (.bipush 48, 2) := by decide +kernel
theorem dX9_isFigure_3 : decode cX9_isFigure 3 = .ok (.bipush 57, 2) := by decide +kernel
theorem dX9_isFigure_5 : decode cX9_isFigure 5 = .ok (.invokestatic 52, 3) := by decide +kernel
theorem dX9_isFigure_8 : decode cX9_isFigure 8 = .ok (.ireturn, 1) := by decide +kernel
theorem dX9_number_0 : decode cX9_number 0 = .ok (.aload_n 0, 1) := by decide +kernel
theorem dX9_number_1 : decode cX9_number 1 = .ok (.aload_n 0, 1) := by decide +kernel
theorem dX9_number_2 : decode cX9_number 2 = .ok (.getfield 59, 3) := by decide +kernel
theorem dX9_number_5 : decode cX9_number 5 = .ok (.invokevirtual 62, 3) := by decide +kernel
theorem dX9_number_8 : decode cX9_number 8 = .ok (.invokestatic 66, 3) := by decide +kernel
theorem dX9_number_11 : decode cX9_number 11 = .ok (.ifCond .ne 5, 3) := by decide +kernel
theorem dX9_number_14 : decode cX9_number 14 = .ok (.iconst (-1), 1) := by decide +kernel
theorem dX9_number_15 : decode cX9_number 15 = .ok (.ireturn, 1) := by decide +kernel
theorem dX9_number_16 : decode cX9_number 16 = .ok (.aload_n 0, 1) := by decide +kernel
theorem dX9_number_17 : decode cX9_number 17 = .ok (.aload_n 0, 1) := by decide +kernel
theorem dX9_number_18 : decode cX9_number 18 = .ok (.getfield 59, 3) := by decide +kernel
theorem dX9_number_21 : decode cX9_number 21 = .ok (.invokevirtual 62, 3) := by decide +kernel
theorem dX9_number_24 : decode cX9_number 24 = .ok (.bipush 48, 2) := by decide +kernel
theorem dX9_number_26 : decode cX9_number 26 = .ok (.isub, 1) := by decide +kernel
theorem dX9_number_27 : decode cX9_number 27 = .ok (.istore 4, 2) := by decide +kernel
theorem dX9_number_29 : decode cX9_number 29 = .ok (.aload_n 0, 1) := by decide +kernel
theorem dX9_number_30 : decode cX9_number 30 = .ok (.dup, 1) := by decide +kernel
theorem dX9_number_31 : decode cX9_number 31 = .ok (.getfield 59, 3) := by decide +kernel
theorem dX9_number_34 : decode cX9_number 34 = .ok (.iconst 1, 1) := by decide +kernel
theorem dX9_number_35 : decode cX9_number 35 = .ok (.iadd, 1) := by decide +kernel
theorem dX9_number_36 : decode cX9_number 36 = .ok (.putfield 59, 3) := by decide +kernel
theorem dX9_number_39 : decode cX9_number 39 = .ok (.aload_n 0, 1) := by decide +kernel
theorem dX9_number_40 : decode cX9_number 40 = .ok (.aload_n 0, 1) := by decide +kernel
theorem dX9_number_41 : decode cX9_number 41 = .ok (.getfield 59, 3) := by decide +kernel
theorem dX9_number_44 : decode cX9_number 44 = .ok (.invokevirtual 62, 3) := by decide +kernel
theorem dX9_number_47 : decode cX9_number 47 = .ok (.invokestatic 66, 3) := by decide +kernel
theorem dX9_number_50 : decode cX9_number 50 = .ok (.ifCond .eq 32, 3) := by decide +kernel
theorem dX9_number_53 : decode cX9_number 53 = .ok (.bipush 10, 2) := by decide +kernel
theorem dX9_number_55 : decode cX9_number 55 = .ok (.iload 4, 2) := by decide +kernel
theorem dX9_number_57 : decode cX9_number 57 = .ok (.imul, 1) := by decide +kernel
theorem dX9_number_58 : decode cX9_number 58 = .ok (.aload_n 0, 1) := by decide +kernel
theorem dX9_number_59 : decode cX9_number 59 = .ok (.aload_n 0, 1) := by decide +kernel
theorem dX9_number_60 : decode cX9_number 60 = .ok (.getfield 59, 3) := by decide +kernel
theorem dX9_number_63 : decode cX9_number 63 = .ok (.invokevirtual 62, 3) := by decide +kernel
theorem dX9_number_66 : decode cX9_number 66 = .ok (.iadd, 1) := by decide +kernel
theorem dX9_number_67 : decode cX9_number 67 = .ok (.bipush 48, 2) := by decide +kernel
theorem dX9_number_69 : decode cX9_number 69 = .ok (.isub, 1) := by decide +kernel
theorem dX9_number_70 : decode cX9_number 70 = .ok (.istore 4, 2) := by decide +kernel
theorem dX9_number_72 : decode cX9_number 72 = .ok (.aload_n 0, 1) := by decide +kernel
theorem dX9_number_73 : decode cX9_number 73 = .ok (.dup, 1) := by decide +kernel
theorem dX9_number_74 : decode cX9_number 74 = .ok (.getfield 59, 3) := by decide +kernel
theorem dX9_number_77 : decode cX9_number 77 = .ok (.iconst 1, 1) := by decide +kernel
theorem dX9_number_78 : decode cX9_number 78 = .ok (.iadd, 1) := by decide +kernel
theorem dX9_number_79 : decode cX9_number 79 = .ok (.putfield 59, 3) := by decide +kernel
theorem dX9_number_82 : decode cX9_number 82 = .ok (.aload_n 0, 1) := by decide +kernel
theorem dX9_number_83 : decode cX9_number 83 = .ok (.aload_n 0, 1) := by decide +kernel
theorem dX9_number_84 : decode cX9_number 84 = .ok (.getfield 59, 3) := by decide +kernel
theorem dX9_number_87 : decode cX9_number 87 = .ok (.invokevirtual 62, 3) := by decide +kernel
theorem dX9_number_90 : decode cX9_number 90 = .ok (.iload_n 3, 1) := by decide +kernel
theorem dX9_number_91 : decode cX9_number 91 = .ok (.if_icmp .ne 17, 3) := by decide +kernel
theorem dX9_number_94 : decode cX9_number 94 = .ok (.iload 4, 2) := by decide +kernel
theorem dX9_number_96 : decode cX9_number 96 = .ok (.iload_n 1, 1) := by decide +kernel
theorem dX9_number_97 : decode cX9_number 97 = .ok (.iload_n 2, 1) := by decide +kernel
theorem dX9_number_98 : decode cX9_number 98 = .ok (.invokestatic 52, 3) := by decide +kernel
theorem dX9_number_101 : decode cX9_number 101 = .ok (.ifCond .eq 7, 3) := by decide +kernel
theorem dX9_number_104 : decode cX9_number 104 = .ok (.iconst 1, 1) := by decide +kernel
theorem dX9_number_105 : decode cX9_number 105 = .ok (.goto 4, 3) := by decide +kernel
theorem dX9_number_108 : decode cX9_number 108 = .ok (.iconst 0, 1) := by decide +kernel
theorem dX9_number_109 : decode cX9_number 109 = .ok (.istore 5, 2) := by decide +kernel
theorem dX9_number_111 : decode cX9_number 111 = .ok (.aload_n 0, 1) := by decide +kernel
theorem dX9_number_112 : decode cX9_number 112 = .ok (.dup, 1) := by decide +kernel
theorem dX9_number_113 : decode cX9_number 113 = .ok (.getfield 59, 3) := by decide +kernel
theorem dX9_number_116 : decode cX9_number 116 = .ok (.iconst 1, 1) := by decide +kernel
theorem dX9_number_117 : decode cX9_number 117 = .ok (.iadd, 1) := by decide +kernel
theorem dX9_number_118 : decode cX9_number 118 = .ok (.putfield 59, 3) := by decide +kernel
theorem dX9_number_121 : decode cX9_number 121 = .ok (.iload 5, 2) := by decide +kernel
theorem dX9_number_123 : decode cX9_number 123 = .ok (.ifCond .eq 8, 3) := by decide +kernel
theorem dX9_number_126 : decode cX9_number 126 = .ok (.iload 4, 2) := by decide +kernel
theorem dX9_number_128 : decode cX9_number 128 = .ok (.goto 4, 3) := by decide +kernel
theorem dX9_number_131 : decode cX9_number 131 = .ok (.iconst (-1), 1) := by decide +kernel
theorem dX9_number_132 : decode cX9_number 132 = .ok (.ireturn, 1) := by decide +kernel
theorem dX9_begins_0 : decode cX9_begins 0 = .ok (.iconst 0, 1) := by decide +kernel
theorem dX9_begins_1 : decode cX9_begins 1 = .ok (.istore_n 1, 1) := by decide +kernel
theorem dX9_begins_2 : decode cX9_begins 2 = .ok (.iload_n 1, 1) := by decide +kernel
theorem dX9_begins_3 : decode cX9_begins 3 = .ok (.bipush 38, 2) := by decide +kernel
theorem dX9_begins_5 : decode cX9_begins 5 = .ok (.if_icmp .ge 16, 3) := by decide +kernel
theorem dX9_begins_8 : decode cX9_begins 8 = .ok (.aload_n 0, 1) := by decide +kernel
theorem dX9_begins_9 : decode cX9_begins 9 = .ok (.getfield 16, 3) := by decide +kernel
theorem dX9_begins_12 : decode cX9_begins 12 = .ok (.iload_n 1, 1) := by decide +kernel
theorem dX9_begins_13 : decode cX9_begins 13 = .ok (.iconst 0, 1) := by decide +kernel
theorem dX9_begins_14 : decode cX9_begins 14 = .ok (.iastore, 1) := by decide +kernel
theorem dX9_begins_15 : decode cX9_begins 15 = .ok (.iinc 1 1, 3) := by decide +kernel
theorem dX9_begins_18 : decode cX9_begins 18 = .ok (.goto (-16), 3) := by decide +kernel
theorem dX9_begins_21 : decode cX9_begins 21 = .ok (.aload_n 0, 1) := by decide +kernel
theorem dX9_begins_22 : decode cX9_begins 22 = .ok (.iconst 0, 1) := by decide +kernel
theorem dX9_begins_23 : decode cX9_begins 23 = .ok (.putfield 45, 3) := by decide +kernel
theorem dX9_begins_26 : decode cX9_begins 26 = .ok (.return_, 1) := by decide +kernel
theorem dX9_bayOf_0 : decode cX9_bayOf 0 = .ok (.aload_n 0, 1) := by decide +kernel
theorem dX9_bayOf_1 : decode cX9_bayOf 1 = .ok (.getfield 16, 3) := by decide +kernel
theorem dX9_bayOf_4 : decode cX9_bayOf 4 = .ok (.iconst 4, 1) := by decide +kernel
theorem dX9_bayOf_5 : decode cX9_bayOf 5 = .ok (.aload_n 0, 1) := by decide +kernel
theorem dX9_bayOf_6 : decode cX9_bayOf 6 = .ok (.getfield 16, 3) := by decide +kernel
theorem dX9_bayOf_9 : decode cX9_bayOf 9 = .ok (.iconst 0, 1) := by decide +kernel
theorem dX9_bayOf_10 : decode cX9_bayOf 10 = .ok (.iaload, 1) := by decide +kernel
theorem dX9_bayOf_11 : decode cX9_bayOf 11 = .ok (.iadd, 1) := by decide +kernel
theorem dX9_bayOf_12 : decode cX9_bayOf 12 = .ok (.iload_n 1, 1) := by decide +kernel
theorem dX9_bayOf_13 : decode cX9_bayOf 13 = .ok (.iastore, 1) := by decide +kernel
theorem dX9_bayOf_14 : decode cX9_bayOf 14 = .ok (.aload_n 0, 1) := by decide +kernel
theorem dX9_bayOf_15 : decode cX9_bayOf 15 = .ok (.getfield 16, 3) := by decide +kernel
theorem dX9_bayOf_18 : decode cX9_bayOf 18 = .ok (.bipush 12, 2) := by decide +kernel
theorem dX9_bayOf_20 : decode cX9_bayOf 20 = .ok (.aload_n 0, 1) := by decide +kernel
theorem dX9_bayOf_21 : decode cX9_bayOf 21 = .ok (.getfield 16, 3) := by decide +kernel
theorem dX9_bayOf_24 : decode cX9_bayOf 24 = .ok (.iconst 0, 1) := by decide +kernel
theorem dX9_bayOf_25 : decode cX9_bayOf 25 = .ok (.iaload, 1) := by decide +kernel
theorem dX9_bayOf_26 : decode cX9_bayOf 26 = .ok (.iadd, 1) := by decide +kernel
theorem dX9_bayOf_27 : decode cX9_bayOf 27 = .ok (.iload_n 2, 1) := by decide +kernel
theorem dX9_bayOf_28 : decode cX9_bayOf 28 = .ok (.iastore, 1) := by decide +kernel
theorem dX9_bayOf_29 : decode cX9_bayOf 29 = .ok (.aload_n 0, 1) := by decide +kernel
theorem dX9_bayOf_30 : decode cX9_bayOf 30 = .ok (.getfield 16, 3) := by decide +kernel
theorem dX9_bayOf_33 : decode cX9_bayOf 33 = .ok (.iconst 0, 1) := by decide +kernel
theorem dX9_bayOf_34 : decode cX9_bayOf 34 = .ok (.dup2, 1) := by decide +kernel
theorem dX9_bayOf_35 : decode cX9_bayOf 35 = .ok (.iaload, 1) := by decide +kernel
theorem dX9_bayOf_36 : decode cX9_bayOf 36 = .ok (.iconst 1, 1) := by decide +kernel
theorem dX9_bayOf_37 : decode cX9_bayOf 37 = .ok (.iadd, 1) := by decide +kernel
theorem dX9_bayOf_38 : decode cX9_bayOf 38 = .ok (.iastore, 1) := by decide +kernel
theorem dX9_bayOf_39 : decode cX9_bayOf 39 = .ok (.return_, 1) := by decide +kernel
theorem dX9_buttressOf_0 : decode cX9_buttressOf 0 = .ok (.aload_n 0, 1) := by decide +kernel
theorem dX9_buttressOf_1 : decode cX9_buttressOf 1 = .ok (.getfield 16, 3) := by decide +kernel
theorem dX9_buttressOf_4 : decode cX9_buttressOf 4 = .ok (.iconst 1, 1) := by decide +kernel
theorem dX9_buttressOf_5 : decode cX9_buttressOf 5 = .ok (.iaload, 1) := by decide +kernel
theorem dX9_buttressOf_6 : decode cX9_buttressOf 6 = .ok (.istore 5, 2) := by decide +kernel
theorem dX9_buttressOf_8 : decode cX9_buttressOf 8 = .ok (.aload_n 0, 1) := by decide +kernel
theorem dX9_buttressOf_9 : decode cX9_buttressOf 9 = .ok (.getfield 16, 3) := by decide +kernel
theorem dX9_buttressOf_12 : decode cX9_buttressOf 12 = .ok (.bipush 20, 2) := by decide +kernel
theorem dX9_buttressOf_14 : decode cX9_buttressOf 14 = .ok (.iload 5, 2) := by decide +kernel
theorem dX9_buttressOf_16 : decode cX9_buttressOf 16 = .ok (.iadd, 1) := by decide +kernel
theorem dX9_buttressOf_17 : decode cX9_buttressOf 17 = .ok (.iload_n 1, 1) := by decide +kernel
theorem dX9_buttressOf_18 : decode cX9_buttressOf 18 = .ok (.iastore, 1) := by decide +kernel
theorem dX9_buttressOf_19 : decode cX9_buttressOf 19 = .ok (.aload_n 0, 1) := by decide +kernel
theorem dX9_buttressOf_20 : decode cX9_buttressOf 20 = .ok (.getfield 16, 3) := by decide +kernel
theorem dX9_buttressOf_23 : decode cX9_buttressOf 23 = .ok (.bipush 26, 2) := by decide +kernel
theorem dX9_buttressOf_25 : decode cX9_buttressOf 25 = .ok (.iload 5, 2) := by decide +kernel
theorem dX9_buttressOf_27 : decode cX9_buttressOf 27 = .ok (.iadd, 1) := by decide +kernel
theorem dX9_buttressOf_28 : decode cX9_buttressOf 28 = .ok (.iload_n 2, 1) := by decide +kernel
theorem dX9_buttressOf_29 : decode cX9_buttressOf 29 = .ok (.iastore, 1) := by decide +kernel
theorem dX9_buttressOf_30 : decode cX9_buttressOf 30 = .ok (.aload_n 0, 1) := by decide +kernel
theorem dX9_buttressOf_31 : decode cX9_buttressOf 31 = .ok (.getfield 16, 3) := by decide +kernel
theorem dX9_buttressOf_34 : decode cX9_buttressOf 34 = .ok (.bipush 32, 2) := by decide +kernel
theorem dX9_buttressOf_36 : decode cX9_buttressOf 36 = .ok (.iload 5, 2) := by decide +kernel
theorem dX9_buttressOf_38 : decode cX9_buttressOf 38 = .ok (.iadd, 1) := by decide +kernel
theorem dX9_buttressOf_39 : decode cX9_buttressOf 39 = .ok (.iload 4, 2) := by decide +kernel
theorem dX9_buttressOf_41 : decode cX9_buttressOf 41 = .ok (.iastore, 1) := by decide +kernel
theorem dX9_buttressOf_42 : decode cX9_buttressOf 42 = .ok (.aload_n 0, 1) := by decide +kernel
theorem dX9_buttressOf_43 : decode cX9_buttressOf 43 = .ok (.getfield 19, 3) := by decide +kernel
theorem dX9_buttressOf_46 : decode cX9_buttressOf 46 = .ok (.iload 5, 2) := by decide +kernel
theorem dX9_buttressOf_48 : decode cX9_buttressOf 48 = .ok (.iload_n 3, 1) := by decide +kernel
theorem dX9_buttressOf_49 : decode cX9_buttressOf 49 = .ok (.iastore, 1) := by decide +kernel
theorem dX9_buttressOf_50 : decode cX9_buttressOf 50 = .ok (.aload_n 0, 1) := by decide +kernel
theorem dX9_buttressOf_51 : decode cX9_buttressOf 51 = .ok (.getfield 16, 3) := by decide +kernel
theorem dX9_buttressOf_54 : decode cX9_buttressOf 54 = .ok (.iconst 1, 1) := by decide +kernel
theorem dX9_buttressOf_55 : decode cX9_buttressOf 55 = .ok (.dup2, 1) := by decide +kernel
theorem dX9_buttressOf_56 : decode cX9_buttressOf 56 = .ok (.iaload, 1) := by decide +kernel
theorem dX9_buttressOf_57 : decode cX9_buttressOf 57 = .ok (.iconst 1, 1) := by decide +kernel
theorem dX9_buttressOf_58 : decode cX9_buttressOf 58 = .ok (.iadd, 1) := by decide +kernel
theorem dX9_buttressOf_59 : decode cX9_buttressOf 59 = .ok (.iastore, 1) := by decide +kernel
theorem dX9_buttressOf_60 : decode cX9_buttressOf 60 = .ok (.return_, 1) := by decide +kernel
theorem dX9_readsBay_0 : decode cX9_readsBay 0 = .ok (.aload_n 0, 1) := by decide +kernel
theorem dX9_readsBay_1 : decode cX9_readsBay 1 = .ok (.iconst 0, 1) := by decide +kernel
theorem dX9_readsBay_2 : decode cX9_readsBay 2 = .ok (.bipush 99, 2) := by decide +kernel
theorem dX9_readsBay_4 : decode cX9_readsBay 4 = .ok (.bipush 44, 2) := by decide +kernel
theorem dX9_readsBay_6 : decode cX9_readsBay 6 = .ok (.invokevirtual 70, 3) := by decide +kernel
theorem dX9_readsBay_9 : decode cX9_readsBay 9 = .ok (.istore_n 1, 1) := by decide +kernel
theorem dX9_readsBay_10 : decode cX9_readsBay 10 = .ok (.iload_n 1, 1) := by decide +kernel
theorem dX9_readsBay_11 : decode cX9_readsBay 11 = .ok (.ifCond .ge 7, 3) := by decide +kernel
theorem dX9_readsBay_14 : decode cX9_readsBay 14 = .ok (.iconst (-1), 1) := by decide +kernel
theorem dX9_readsBay_15 : decode cX9_readsBay 15 = .ok (.goto 12, 3) := by decide +kernel
theorem dX9_readsBay_18 : decode cX9_readsBay 18 = .ok (.aload_n 0, 1) := by decide +kernel
theorem dX9_readsBay_19 : decode cX9_readsBay 19 = .ok (.iconst 0, 1) := by decide +kernel
theorem dX9_readsBay_20 : decode cX9_readsBay 20 = .ok (.bipush 20, 2) := by decide +kernel
theorem dX9_readsBay_22 : decode cX9_readsBay 22 = .ok (.bipush 59, 2) := by decide +kernel
theorem dX9_readsBay_24 : decode cX9_readsBay 24 = .ok (.invokevirtual 70, 3) := by decide +kernel
theorem dX9_readsBay_27 : decode cX9_readsBay 27 = .ok (.istore_n 2, 1) := by decide +kernel
theorem dX9_readsBay_28 : decode cX9_readsBay 28 = .ok (.iload_n 2, 1) := by decide +kernel
theorem dX9_readsBay_29 : decode cX9_readsBay 29 = .ok (.ifCond .lt 14, 3) := by decide +kernel
theorem dX9_readsBay_32 : decode cX9_readsBay 32 = .ok (.aload_n 0, 1) := by decide +kernel
theorem dX9_readsBay_33 : decode cX9_readsBay 33 = .ok (.getfield 16, 3) := by decide +kernel
theorem dX9_readsBay_36 : decode cX9_readsBay 36 = .ok (.iconst 0, 1) := by decide +kernel
theorem dX9_readsBay_37 : decode cX9_readsBay 37 = .ok (.iaload, 1) := by decide +kernel
theorem dX9_readsBay_38 : decode cX9_readsBay 38 = .ok (.bipush 8, 2) := by decide +kernel
theorem dX9_readsBay_40 : decode cX9_readsBay 40 = .ok (.if_icmp .ne 5, 3) := by decide +kernel
theorem dX9_readsBay_43 : decode cX9_readsBay 43 = .ok (.iconst 0, 1) := by decide +kernel
theorem dX9_readsBay_44 : decode cX9_readsBay 44 = .ok (.ireturn, 1) := by decide +kernel
theorem dX9_readsBay_45 : decode cX9_readsBay 45 = .ok (.aload_n 0, 1) := by decide +kernel
theorem dX9_readsBay_46 : decode cX9_readsBay 46 = .ok (.iload_n 1, 1) := by decide +kernel
theorem dX9_readsBay_47 : decode cX9_readsBay 47 = .ok (.iload_n 2, 1) := by decide +kernel
theorem dX9_readsBay_48 : decode cX9_readsBay 48 = .ok (.invokevirtual 37, 3) := by decide +kernel
theorem dX9_readsBay_51 : decode cX9_readsBay 51 = .ok (.iconst 1, 1) := by decide +kernel
theorem dX9_readsBay_52 : decode cX9_readsBay 52 = .ok (.ireturn, 1) := by decide +kernel
theorem dX9_readsButtress_0 : decode cX9_readsButtress 0 = .ok (.aload_n 0, 1) := by decide +kernel
theorem dX9_readsButtress_1 : decode cX9_readsButtress 1 = .ok (.iconst 0, 1) := by decide +kernel
theorem dX9_readsButtress_2 : decode cX9_readsButtress 2 = .ok (.iconst 3, 1) := by decide +kernel
theorem dX9_readsButtress_3 : decode cX9_readsButtress 3 = .ok (.bipush 44, 2) := by decide +kernel
theorem dX9_readsButtress_5 : decode cX9_readsButtress 5 = .ok (.invokevirtual 70, 3) := by decide +kernel
theorem dX9_readsButtress_8 : decode cX9_readsButtress 8 = .ok (.istore_n 1, 1) := by decide +kernel
theorem dX9_readsButtress_9 : decode cX9_readsButtress 9 = .ok (.iload_n 1, 1) := by decide +kernel
theorem dX9_readsButtress_10 : decode cX9_readsButtress 10 = .ok (.ifCond .ge 7, 3) := by decide +kernel
theorem dX9_readsButtress_13 : decode cX9_readsButtress 13 = .ok (.iconst (-1), 1) := by decide +kernel
theorem dX9_readsButtress_14 : decode cX9_readsButtress 14 = .ok (.goto 12, 3) := by decide +kernel
theorem dX9_readsButtress_17 : decode cX9_readsButtress 17 = .ok (.aload_n 0, 1) := by decide +kernel
theorem dX9_readsButtress_18 : decode cX9_readsButtress 18 = .ok (.iconst 1, 1) := by decide +kernel
theorem dX9_readsButtress_19 : decode cX9_readsButtress 19 = .ok (.bipush 99, 2) := by decide +kernel
theorem dX9_readsButtress_21 : decode cX9_readsButtress 21 = .ok (.bipush 44, 2) := by decide +kernel
theorem dX9_readsButtress_23 : decode cX9_readsButtress 23 = .ok (.invokevirtual 70, 3) := by decide +kernel
theorem dX9_readsButtress_26 : decode cX9_readsButtress 26 = .ok (.istore_n 2, 1) := by decide +kernel
theorem dX9_readsButtress_27 : decode cX9_readsButtress 27 = .ok (.iload_n 2, 1) := by decide +kernel
theorem dX9_readsButtress_28 : decode cX9_readsButtress 28 = .ok (.ifCond .ge 7, 3) := by decide +kernel
theorem dX9_readsButtress_31 : decode cX9_readsButtress 31 = .ok (.iconst (-1), 1) := by decide +kernel
theorem dX9_readsButtress_32 : decode cX9_readsButtress 32 = .ok (.goto 18, 3) := by decide +kernel
theorem dX9_readsButtress_35 : decode cX9_readsButtress 35 = .ok (.aload_n 0, 1) := by decide +kernel
theorem dX9_readsButtress_36 : decode cX9_readsButtress 36 = .ok (.iconst 0, 1) := by decide +kernel
theorem dX9_readsButtress_37 : decode cX9_readsButtress 37 = .ok (.aload_n 0, 1) := by decide +kernel
theorem dX9_readsButtress_38 : decode cX9_readsButtress 38 = .ok (.getfield 16, 3) := by decide +kernel
theorem dX9_readsButtress_41 : decode cX9_readsButtress 41 = .ok (.iconst 0, 1) := by decide +kernel
theorem dX9_readsButtress_42 : decode cX9_readsButtress 42 = .ok (.iaload, 1) := by decide +kernel
theorem dX9_readsButtress_43 : decode cX9_readsButtress 43 = .ok (.iconst 1, 1) := by decide +kernel
theorem dX9_readsButtress_44 : decode cX9_readsButtress 44 = .ok (.isub, 1) := by decide +kernel
theorem dX9_readsButtress_45 : decode cX9_readsButtress 45 = .ok (.bipush 44, 2) := by decide +kernel
theorem dX9_readsButtress_47 : decode cX9_readsButtress 47 = .ok (.invokevirtual 70, 3) := by decide +kernel
theorem dX9_readsButtress_50 : decode cX9_readsButtress 50 = .ok (.istore_n 3, 1) := by decide +kernel
theorem dX9_readsButtress_51 : decode cX9_readsButtress 51 = .ok (.iload_n 3, 1) := by decide +kernel
theorem dX9_readsButtress_52 : decode cX9_readsButtress 52 = .ok (.ifCond .ge 7, 3) := by decide +kernel
theorem dX9_readsButtress_55 : decode cX9_readsButtress 55 = .ok (.iconst (-1), 1) := by decide +kernel
theorem dX9_readsButtress_56 : decode cX9_readsButtress 56 = .ok (.goto 12, 3) := by decide +kernel
theorem dX9_readsButtress_59 : decode cX9_readsButtress 59 = .ok (.aload_n 0, 1) := by decide +kernel
theorem dX9_readsButtress_60 : decode cX9_readsButtress 60 = .ok (.iconst 1, 1) := by decide +kernel
theorem dX9_readsButtress_61 : decode cX9_readsButtress 61 = .ok (.bipush 30, 2) := by decide +kernel
theorem dX9_readsButtress_63 : decode cX9_readsButtress 63 = .ok (.bipush 59, 2) := by decide +kernel
theorem dX9_readsButtress_65 : decode cX9_readsButtress 65 = .ok (.invokevirtual 70, 3) := by decide +kernel
theorem dX9_readsButtress_68 : decode cX9_readsButtress 68 = .ok (.istore 4, 2) := by decide +kernel
theorem dX9_readsButtress_70 : decode cX9_readsButtress 70 = .ok (.iload 4, 2) := by decide +kernel
theorem dX9_readsButtress_72 : decode cX9_readsButtress 72 = .ok (.ifCond .lt 14, 3) := by decide +kernel
theorem dX9_readsButtress_75 : decode cX9_readsButtress 75 = .ok (.aload_n 0, 1) := by decide +kernel
theorem dX9_readsButtress_76 : decode cX9_readsButtress 76 = .ok (.getfield 16, 3) := by decide +kernel
theorem dX9_readsButtress_79 : decode cX9_readsButtress 79 = .ok (.iconst 1, 1) := by decide +kernel
theorem dX9_readsButtress_80 : decode cX9_readsButtress 80 = .ok (.iaload, 1) := by decide +kernel
theorem dX9_readsButtress_81 : decode cX9_readsButtress 81 = .ok (.bipush 6, 2) := by decide +kernel
theorem dX9_readsButtress_83 : decode cX9_readsButtress 83 = .ok (.if_icmp .ne 5, 3) := by decide +kernel
theorem dX9_readsButtress_86 : decode cX9_readsButtress 86 = .ok (.iconst 0, 1) := by decide +kernel
theorem dX9_readsButtress_87 : decode cX9_readsButtress 87 = .ok (.ireturn, 1) := by decide +kernel
theorem dX9_readsButtress_88 : decode cX9_readsButtress 88 = .ok (.aload_n 0, 1) := by decide +kernel
theorem dX9_readsButtress_89 : decode cX9_readsButtress 89 = .ok (.iload_n 1, 1) := by decide +kernel
theorem dX9_readsButtress_90 : decode cX9_readsButtress 90 = .ok (.iload_n 2, 1) := by decide +kernel
theorem dX9_readsButtress_91 : decode cX9_readsButtress 91 = .ok (.iload_n 3, 1) := by decide +kernel
theorem dX9_readsButtress_92 : decode cX9_readsButtress 92 = .ok (.iload 4, 2) := by decide +kernel
theorem dX9_readsButtress_94 : decode cX9_readsButtress 94 = .ok (.invokevirtual 41, 3) := by decide +kernel
theorem dX9_readsButtress_97 : decode cX9_readsButtress 97 = .ok (.iconst 1, 1) := by decide +kernel
theorem dX9_readsButtress_98 : decode cX9_readsButtress 98 = .ok (.ireturn, 1) := by decide +kernel
theorem dX9_readsItem_0 : decode cX9_readsItem 0 = .ok (.iload_n 1, 1) := by decide +kernel
theorem dX9_readsItem_1 : decode cX9_readsItem 1 = .ok (.tableswitch 146 98 102 #[35, 45, 100, 146, 40], 35) := by decide +kernel
theorem dX9_readsItem_36 : decode cX9_readsItem 36 = .ok (.aload_n 0, 1) := by decide +kernel
theorem dX9_readsItem_37 : decode cX9_readsItem 37 = .ok (.invokevirtual 74, 3) := by decide +kernel
theorem dX9_readsItem_40 : decode cX9_readsItem 40 = .ok (.ireturn, 1) := by decide +kernel
theorem dX9_readsItem_41 : decode cX9_readsItem 41 = .ok (.aload_n 0, 1) := by decide +kernel
theorem dX9_readsItem_42 : decode cX9_readsItem 42 = .ok (.invokevirtual 78, 3) := by decide +kernel
theorem dX9_readsItem_45 : decode cX9_readsItem 45 = .ok (.ireturn, 1) := by decide +kernel
theorem dX9_readsItem_46 : decode cX9_readsItem 46 = .ok (.aload_n 0, 1) := by decide +kernel
theorem dX9_readsItem_47 : decode cX9_readsItem 47 = .ok (.iconst 0, 1) := by decide +kernel
theorem dX9_readsItem_48 : decode cX9_readsItem 48 = .ok (.iconst 1, 1) := by decide +kernel
theorem dX9_readsItem_49 : decode cX9_readsItem 49 = .ok (.bipush 59, 2) := by decide +kernel
theorem dX9_readsItem_51 : decode cX9_readsItem 51 = .ok (.invokevirtual 70, 3) := by decide +kernel
theorem dX9_readsItem_54 : decode cX9_readsItem 54 = .ok (.istore_n 2, 1) := by decide +kernel
theorem dX9_readsItem_55 : decode cX9_readsItem 55 = .ok (.iload_n 2, 1) := by decide +kernel
theorem dX9_readsItem_56 : decode cX9_readsItem 56 = .ok (.ifCond .lt 14, 3) := by decide +kernel
theorem dX9_readsItem_59 : decode cX9_readsItem 59 = .ok (.aload_n 0, 1) := by decide +kernel
theorem dX9_readsItem_60 : decode cX9_readsItem 60 = .ok (.getfield 16, 3) := by decide +kernel
theorem dX9_readsItem_63 : decode cX9_readsItem 63 = .ok (.iconst 2, 1) := by decide +kernel
theorem dX9_readsItem_64 : decode cX9_readsItem 64 = .ok (.iaload, 1) := by decide +kernel
theorem dX9_readsItem_65 : decode cX9_readsItem 65 = .ok (.bipush 12, 2) := by decide +kernel
theorem dX9_readsItem_67 : decode cX9_readsItem 67 = .ok (.if_icmp .ne 5, 3) := by decide +kernel
theorem dX9_readsItem_70 : decode cX9_readsItem 70 = .ok (.iconst 0, 1) := by decide +kernel
theorem dX9_readsItem_71 : decode cX9_readsItem 71 = .ok (.ireturn, 1) := by decide +kernel
theorem dX9_readsItem_72 : decode cX9_readsItem 72 = .ok (.aload_n 0, 1) := by decide +kernel
theorem dX9_readsItem_73 : decode cX9_readsItem 73 = .ok (.getfield 16, 3) := by decide +kernel
theorem dX9_readsItem_76 : decode cX9_readsItem 76 = .ok (.iconst 3, 1) := by decide +kernel
theorem dX9_readsItem_77 : decode cX9_readsItem 77 = .ok (.dup2, 1) := by decide +kernel
theorem dX9_readsItem_78 : decode cX9_readsItem 78 = .ok (.iaload, 1) := by decide +kernel
theorem dX9_readsItem_79 : decode cX9_readsItem 79 = .ok (.iload_n 2, 1) := by decide +kernel
theorem dX9_readsItem_80 : decode cX9_readsItem 80 = .ok (.aload_n 0, 1) := by decide +kernel
theorem dX9_readsItem_81 : decode cX9_readsItem 81 = .ok (.getfield 16, 3) := by decide +kernel
theorem dX9_readsItem_84 : decode cX9_readsItem 84 = .ok (.iconst 2, 1) := by decide +kernel
theorem dX9_readsItem_85 : decode cX9_readsItem 85 = .ok (.iaload, 1) := by decide +kernel
theorem dX9_readsItem_86 : decode cX9_readsItem 86 = .ok (.ishl, 1) := by decide +kernel
theorem dX9_readsItem_87 : decode cX9_readsItem 87 = .ok (.ior, 1) := by decide +kernel
theorem dX9_readsItem_88 : decode cX9_readsItem 88 = .ok (.iastore, 1) := by decide +kernel
theorem dX9_readsItem_89 : decode cX9_readsItem 89 = .ok (.aload_n 0, 1) := by decide +kernel
theorem dX9_readsItem_90 : decode cX9_readsItem 90 = .ok (.getfield 16, 3) := by decide +kernel
theorem dX9_readsItem_93 : decode cX9_readsItem 93 = .ok (.iconst 2, 1) := by decide +kernel
theorem dX9_readsItem_94 : decode cX9_readsItem 94 = .ok (.dup2, 1) := by decide +kernel
theorem dX9_readsItem_95 : decode cX9_readsItem 95 = .ok (.iaload, 1) := by decide +kernel
theorem dX9_readsItem_96 : decode cX9_readsItem 96 = .ok (.iconst 1, 1) := by decide +kernel
theorem dX9_readsItem_97 : decode cX9_readsItem 97 = .ok (.iadd, 1) := by decide +kernel
theorem dX9_readsItem_98 : decode cX9_readsItem 98 = .ok (.iastore, 1) := by decide +kernel
theorem dX9_readsItem_99 : decode cX9_readsItem 99 = .ok (.iconst 1, 1) := by decide +kernel
theorem dX9_readsItem_100 : decode cX9_readsItem 100 = .ok (.ireturn, 1) := by decide +kernel
theorem dX9_readsItem_101 : decode cX9_readsItem 101 = .ok (.aload_n 0, 1) := by decide +kernel
theorem dX9_readsItem_102 : decode cX9_readsItem 102 = .ok (.iconst 0, 1) := by decide +kernel
theorem dX9_readsItem_103 : decode cX9_readsItem 103 = .ok (.aload_n 0, 1) := by decide +kernel
theorem dX9_readsItem_104 : decode cX9_readsItem 104 = .ok (.getfield 16, 3) := by decide +kernel
theorem dX9_readsItem_107 : decode cX9_readsItem 107 = .ok (.iconst 1, 1) := by decide +kernel
theorem dX9_readsItem_108 : decode cX9_readsItem 108 = .ok (.iaload, 1) := by decide +kernel
theorem dX9_readsItem_109 : decode cX9_readsItem 109 = .ok (.iconst 1, 1) := by decide +kernel
theorem dX9_readsItem_110 : decode cX9_readsItem 110 = .ok (.isub, 1) := by decide +kernel
theorem dX9_readsItem_111 : decode cX9_readsItem 111 = .ok (.bipush 59, 2) := by decide +kernel
theorem dX9_readsItem_113 : decode cX9_readsItem 113 = .ok (.invokevirtual 70, 3) := by decide +kernel
theorem dX9_readsItem_116 : decode cX9_readsItem 116 = .ok (.istore_n 2, 1) := by decide +kernel
theorem dX9_readsItem_117 : decode cX9_readsItem 117 = .ok (.aload_n 0, 1) := by decide +kernel
theorem dX9_readsItem_118 : decode cX9_readsItem 118 = .ok (.dup, 1) := by decide +kernel
theorem dX9_readsItem_119 : decode cX9_readsItem 119 = .ok (.getfield 45, 3) := by decide +kernel
theorem dX9_readsItem_122 : decode cX9_readsItem 122 = .ok (.iload_n 2, 1) := by decide +kernel
theorem dX9_readsItem_123 : decode cX9_readsItem 123 = .ok (.ifCond .ge 7, 3) := by decide +kernel
theorem dX9_readsItem_126 : decode cX9_readsItem 126 = .ok (.iconst 0, 1) := by decide +kernel
theorem dX9_readsItem_127 : decode cX9_readsItem 127 = .ok (.goto 6, 3) := by decide +kernel
theorem dX9_readsItem_130 : decode cX9_readsItem 130 = .ok (.iconst 1, 1) := by decide +kernel
theorem dX9_readsItem_131 : decode cX9_readsItem 131 = .ok (.iload_n 2, 1) := by decide +kernel
theorem dX9_readsItem_132 : decode cX9_readsItem 132 = .ok (.ishl, 1) := by decide +kernel
theorem dX9_readsItem_133 : decode cX9_readsItem 133 = .ok (.ior, 1) := by decide +kernel
theorem dX9_readsItem_134 : decode cX9_readsItem 134 = .ok (.putfield 45, 3) := by decide +kernel
theorem dX9_readsItem_137 : decode cX9_readsItem 137 = .ok (.iload_n 2, 1) := by decide +kernel
theorem dX9_readsItem_138 : decode cX9_readsItem 138 = .ok (.ifCond .lt 7, 3) := by decide +kernel
theorem dX9_readsItem_141 : decode cX9_readsItem 141 = .ok (.iconst 1, 1) := by decide +kernel
theorem dX9_readsItem_142 : decode cX9_readsItem 142 = .ok (.goto 4, 3) := by decide +kernel
theorem dX9_readsItem_145 : decode cX9_readsItem 145 = .ok (.iconst 0, 1) := by decide +kernel
theorem dX9_readsItem_146 : decode cX9_readsItem 146 = .ok (.ireturn, 1) := by decide +kernel
theorem dX9_readsItem_147 : decode cX9_readsItem 147 = .ok (.iconst 0, 1) := by decide +kernel
theorem dX9_readsItem_148 : decode cX9_readsItem 148 = .ok (.ireturn, 1) := by decide +kernel
theorem dX9_readsAll_0 : decode cX9_readsAll 0 = .ok (.aload_n 0, 1) := by decide +kernel
theorem dX9_readsAll_1 : decode cX9_readsAll 1 = .ok (.invokevirtual 34, 3) := by decide +kernel
theorem dX9_readsAll_4 : decode cX9_readsAll 4 = .ok (.aload_n 0, 1) := by decide +kernel
theorem dX9_readsAll_5 : decode cX9_readsAll 5 = .ok (.iconst 0, 1) := by decide +kernel
theorem dX9_readsAll_6 : decode cX9_readsAll 6 = .ok (.putfield 59, 3) := by decide +kernel
theorem dX9_readsAll_9 : decode cX9_readsAll 9 = .ok (.aload_n 0, 1) := by decide +kernel
theorem dX9_readsAll_10 : decode cX9_readsAll 10 = .ok (.getfield 59, 3) := by decide +kernel
theorem dX9_readsAll_13 : decode cX9_readsAll 13 = .ok (.aload_n 0, 1) := by decide +kernel
theorem dX9_readsAll_14 : decode cX9_readsAll 14 = .ok (.getfield 56, 3) := by decide +kernel
theorem dX9_readsAll_17 : decode cX9_readsAll 17 = .ok (.if_icmp .ge 36, 3) := by decide +kernel
theorem dX9_readsAll_20 : decode cX9_readsAll 20 = .ok (.aload_n 0, 1) := by decide +kernel
theorem dX9_readsAll_21 : decode cX9_readsAll 21 = .ok (.getfield 59, 3) := by decide +kernel
theorem dX9_readsAll_24 : decode cX9_readsAll 24 = .ok (.istore_n 1, 1) := by decide +kernel
theorem dX9_readsAll_25 : decode cX9_readsAll 25 = .ok (.aload_n 0, 1) := by decide +kernel
theorem dX9_readsAll_26 : decode cX9_readsAll 26 = .ok (.dup, 1) := by decide +kernel
theorem dX9_readsAll_27 : decode cX9_readsAll 27 = .ok (.getfield 59, 3) := by decide +kernel
theorem dX9_readsAll_30 : decode cX9_readsAll 30 = .ok (.iconst 1, 1) := by decide +kernel
theorem dX9_readsAll_31 : decode cX9_readsAll 31 = .ok (.iadd, 1) := by decide +kernel
theorem dX9_readsAll_32 : decode cX9_readsAll 32 = .ok (.putfield 59, 3) := by decide +kernel
theorem dX9_readsAll_35 : decode cX9_readsAll 35 = .ok (.aload_n 0, 1) := by decide +kernel
theorem dX9_readsAll_36 : decode cX9_readsAll 36 = .ok (.aload_n 0, 1) := by decide +kernel
theorem dX9_readsAll_37 : decode cX9_readsAll 37 = .ok (.getfield 7, 3) := by decide +kernel
theorem dX9_readsAll_40 : decode cX9_readsAll 40 = .ok (.iload_n 1, 1) := by decide +kernel
theorem dX9_readsAll_41 : decode cX9_readsAll 41 = .ok (.iaload, 1) := by decide +kernel
theorem dX9_readsAll_42 : decode cX9_readsAll 42 = .ok (.invokevirtual 81, 3) := by decide +kernel
theorem dX9_readsAll_45 : decode cX9_readsAll 45 = .ok (.ifCond .ne 5, 3) := by decide +kernel
theorem dX9_readsAll_48 : decode cX9_readsAll 48 = .ok (.iload_n 1, 1) := by decide +kernel
theorem dX9_readsAll_49 : decode cX9_readsAll 49 = .ok (.ireturn, 1) := by decide +kernel
theorem dX9_readsAll_50 : decode cX9_readsAll 50 = .ok (.goto (-41), 3) := by decide +kernel
theorem dX9_readsAll_53 : decode cX9_readsAll 53 = .ok (.bipush (-4), 2) := by decide +kernel
theorem dX9_readsAll_55 : decode cX9_readsAll 55 = .ok (.ireturn, 1) := by decide +kernel
theorem dX9_fault_0 : decode cX9_fault 0 = .ok (.aload_n 0, 1) := by decide +kernel
theorem dX9_fault_1 : decode cX9_fault 1 = .ok (.invokevirtual 84, 3) := by decide +kernel
theorem dX9_fault_4 : decode cX9_fault 4 = .ok (.ireturn, 1) := by decide +kernel
theorem dX9_lays_0 : decode cX9_lays 0 = .ok (.iconst 0, 1) := by decide +kernel
theorem dX9_lays_1 : decode cX9_lays 1 = .ok (.istore_n 1, 1) := by decide +kernel
theorem dX9_lays_2 : decode cX9_lays 2 = .ok (.iload_n 1, 1) := by decide +kernel
theorem dX9_lays_3 : decode cX9_lays 3 = .ok (.bipush 38, 2) := by decide +kernel
theorem dX9_lays_5 : decode cX9_lays 5 = .ok (.if_icmp .ge 21, 3) := by decide +kernel
theorem dX9_lays_8 : decode cX9_lays 8 = .ok (.aload_n 0, 1) := by decide +kernel
theorem dX9_lays_9 : decode cX9_lays 9 = .ok (.getfield 13, 3) := by decide +kernel
theorem dX9_lays_12 : decode cX9_lays 12 = .ok (.iload_n 1, 1) := by decide +kernel
theorem dX9_lays_13 : decode cX9_lays 13 = .ok (.aload_n 0, 1) := by decide +kernel
theorem dX9_lays_14 : decode cX9_lays 14 = .ok (.getfield 16, 3) := by decide +kernel
theorem dX9_lays_17 : decode cX9_lays 17 = .ok (.iload_n 1, 1) := by decide +kernel
theorem dX9_lays_18 : decode cX9_lays 18 = .ok (.iaload, 1) := by decide +kernel
theorem dX9_lays_19 : decode cX9_lays 19 = .ok (.iastore, 1) := by decide +kernel
theorem dX9_lays_20 : decode cX9_lays 20 = .ok (.iinc 1 1, 3) := by decide +kernel
theorem dX9_lays_23 : decode cX9_lays 23 = .ok (.goto (-21), 3) := by decide +kernel
theorem dX9_lays_26 : decode cX9_lays 26 = .ok (.iconst 0, 1) := by decide +kernel
theorem dX9_lays_27 : decode cX9_lays 27 = .ok (.istore_n 1, 1) := by decide +kernel
theorem dX9_lays_28 : decode cX9_lays 28 = .ok (.iload_n 1, 1) := by decide +kernel
theorem dX9_lays_29 : decode cX9_lays 29 = .ok (.bipush 23, 2) := by decide +kernel
theorem dX9_lays_31 : decode cX9_lays 31 = .ok (.if_icmp .ge 52, 3) := by decide +kernel
theorem dX9_lays_34 : decode cX9_lays 34 = .ok (.aload_n 0, 1) := by decide +kernel
theorem dX9_lays_35 : decode cX9_lays 35 = .ok (.getfield 22, 3) := by decide +kernel
theorem dX9_lays_38 : decode cX9_lays 38 = .ok (.iload_n 1, 1) := by decide +kernel
theorem dX9_lays_39 : decode cX9_lays 39 = .ok (.iload_n 1, 1) := by decide +kernel
theorem dX9_lays_40 : decode cX9_lays 40 = .ok (.bipush 9, 2) := by decide +kernel
theorem dX9_lays_42 : decode cX9_lays 42 = .ok (.bipush 14, 2) := by decide +kernel
theorem dX9_lays_44 : decode cX9_lays 44 = .ok (.invokestatic 52, 3) := by decide +kernel
theorem dX9_lays_47 : decode cX9_lays 47 = .ok (.ifCond .eq 28, 3) := by decide +kernel
theorem dX9_lays_50 : decode cX9_lays 50 = .ok (.iload_n 1, 1) := by decide +kernel
theorem dX9_lays_51 : decode cX9_lays 51 = .ok (.bipush 9, 2) := by decide +kernel
theorem dX9_lays_53 : decode cX9_lays 53 = .ok (.isub, 1) := by decide +kernel
theorem dX9_lays_54 : decode cX9_lays 54 = .ok (.aload_n 0, 1) := by decide +kernel
theorem dX9_lays_55 : decode cX9_lays 55 = .ok (.getfield 13, 3) := by decide +kernel
theorem dX9_lays_58 : decode cX9_lays 58 = .ok (.iconst 1, 1) := by decide +kernel
theorem dX9_lays_59 : decode cX9_lays 59 = .ok (.iaload, 1) := by decide +kernel
theorem dX9_lays_60 : decode cX9_lays 60 = .ok (.if_icmp .ge 15, 3) := by decide +kernel
theorem dX9_lays_63 : decode cX9_lays 63 = .ok (.aload_n 0, 1) := by decide +kernel
theorem dX9_lays_64 : decode cX9_lays 64 = .ok (.getfield 19, 3) := by decide +kernel
theorem dX9_lays_67 : decode cX9_lays 67 = .ok (.iload_n 1, 1) := by decide +kernel
theorem dX9_lays_68 : decode cX9_lays 68 = .ok (.bipush 9, 2) := by decide +kernel
theorem dX9_lays_70 : decode cX9_lays 70 = .ok (.isub, 1) := by decide +kernel
theorem dX9_lays_71 : decode cX9_lays 71 = .ok (.iaload, 1) := by decide +kernel
theorem dX9_lays_72 : decode cX9_lays 72 = .ok (.goto 4, 3) := by decide +kernel
theorem dX9_lays_75 : decode cX9_lays 75 = .ok (.iconst 0, 1) := by decide +kernel
theorem dX9_lays_76 : decode cX9_lays 76 = .ok (.iastore, 1) := by decide +kernel
theorem dX9_lays_77 : decode cX9_lays 77 = .ok (.iinc 1 1, 3) := by decide +kernel
theorem dX9_lays_80 : decode cX9_lays 80 = .ok (.goto (-52), 3) := by decide +kernel
theorem dX9_lays_83 : decode cX9_lays 83 = .ok (.aload_n 0, 1) := by decide +kernel
theorem dX9_lays_84 : decode cX9_lays 84 = .ok (.getfield 22, 3) := by decide +kernel
theorem dX9_lays_87 : decode cX9_lays 87 = .ok (.iconst 1, 1) := by decide +kernel
theorem dX9_lays_88 : decode cX9_lays 88 = .ok (.iconst 1, 1) := by decide +kernel
theorem dX9_lays_89 : decode cX9_lays 89 = .ok (.aload_n 0, 1) := by decide +kernel
theorem dX9_lays_90 : decode cX9_lays 90 = .ok (.getfield 13, 3) := by decide +kernel
theorem dX9_lays_93 : decode cX9_lays 93 = .ok (.iconst 1, 1) := by decide +kernel
theorem dX9_lays_94 : decode cX9_lays 94 = .ok (.iaload, 1) := by decide +kernel
theorem dX9_lays_95 : decode cX9_lays 95 = .ok (.ishl, 1) := by decide +kernel
theorem dX9_lays_96 : decode cX9_lays 96 = .ok (.iconst 1, 1) := by decide +kernel
theorem dX9_lays_97 : decode cX9_lays 97 = .ok (.isub, 1) := by decide +kernel
theorem dX9_lays_98 : decode cX9_lays 98 = .ok (.aload_n 0, 1) := by decide +kernel
theorem dX9_lays_99 : decode cX9_lays 99 = .ok (.getfield 45, 3) := by decide +kernel
theorem dX9_lays_102 : decode cX9_lays 102 = .ok (.iconst (-1), 1) := by decide +kernel
theorem dX9_lays_103 : decode cX9_lays 103 = .ok (.ixor, 1) := by decide +kernel
theorem dX9_lays_104 : decode cX9_lays 104 = .ok (.iand, 1) := by decide +kernel
theorem dX9_lays_105 : decode cX9_lays 105 = .ok (.iastore, 1) := by decide +kernel
theorem dX9_lays_106 : decode cX9_lays 106 = .ok (.aload_n 0, 1) := by decide +kernel
theorem dX9_lays_107 : decode cX9_lays 107 = .ok (.iconst 0, 1) := by decide +kernel
theorem dX9_lays_108 : decode cX9_lays 108 = .ok (.putfield 88, 3) := by decide +kernel
theorem dX9_lays_111 : decode cX9_lays 111 = .ok (.aload_n 0, 1) := by decide +kernel
theorem dX9_lays_112 : decode cX9_lays 112 = .ok (.iconst 0, 1) := by decide +kernel
theorem dX9_lays_113 : decode cX9_lays 113 = .ok (.putfield 91, 3) := by decide +kernel
theorem dX9_lays_116 : decode cX9_lays 116 = .ok (.return_, 1) := by decide +kernel
theorem dX9_lay_0 : decode cX9_lay 0 = .ok (.aload_n 0, 1) := by decide +kernel
theorem dX9_lay_1 : decode cX9_lay 1 = .ok (.invokevirtual 84, 3) := by decide +kernel
theorem dX9_lay_4 : decode cX9_lay 4 = .ok (.bipush (-4), 2) := by decide +kernel
theorem dX9_lay_6 : decode cX9_lay 6 = .ok (.if_icmp .ne 12, 3) := by decide +kernel
theorem dX9_lay_9 : decode cX9_lay 9 = .ok (.aload_n 0, 1) := by decide +kernel
theorem dX9_lay_10 : decode cX9_lay 10 = .ok (.getfield 16, 3) := by decide +kernel
theorem dX9_lay_13 : decode cX9_lay 13 = .ok (.iconst 0, 1) := by decide +kernel
theorem dX9_lay_14 : decode cX9_lay 14 = .ok (.iaload, 1) := by decide +kernel
theorem dX9_lay_15 : decode cX9_lay 15 = .ok (.ifCond .ne 6, 3) := by decide +kernel
theorem dX9_lay_18 : decode cX9_lay 18 = .ok (.bipush (-2), 2) := by decide +kernel
theorem dX9_lay_20 : decode cX9_lay 20 = .ok (.ireturn, 1) := by decide +kernel
theorem dX9_lay_21 : decode cX9_lay 21 = .ok (.aload_n 0, 1) := by decide +kernel
theorem dX9_lay_22 : decode cX9_lay 22 = .ok (.invokevirtual 49, 3) := by decide +kernel
theorem dX9_lay_25 : decode cX9_lay 25 = .ok (.aload_n 0, 1) := by decide +kernel
theorem dX9_lay_26 : decode cX9_lay 26 = .ok (.getfield 13, 3) := by decide +kernel
theorem dX9_lay_29 : decode cX9_lay 29 = .ok (.iconst 0, 1) := by decide +kernel
theorem dX9_lay_30 : decode cX9_lay 30 = .ok (.iaload, 1) := by decide +kernel
theorem dX9_lay_31 : decode cX9_lay 31 = .ok (.ireturn, 1) := by decide +kernel
theorem dX9_hasFallen_0 : decode cX9_hasFallen 0 = .ok (.aload_n 0, 1) := by decide +kernel
theorem dX9_hasFallen_1 : decode cX9_hasFallen 1 = .ok (.getfield 22, 3) := by decide +kernel
theorem dX9_hasFallen_4 : decode cX9_hasFallen 4 = .ok (.iconst 2, 1) := by decide +kernel
theorem dX9_hasFallen_5 : decode cX9_hasFallen 5 = .ok (.iaload, 1) := by decide +kernel
theorem dX9_hasFallen_6 : decode cX9_hasFallen 6 = .ok (.iload_n 1, 1) := by decide +kernel
theorem dX9_hasFallen_7 : decode cX9_hasFallen 7 = .ok (.invokestatic 94, 3) := by decide +kernel
theorem dX9_hasFallen_10 : decode cX9_hasFallen 10 = .ok (.ireturn, 1) := by decide +kernel
theorem dX9_load_0 : decode cX9_load 0 = .ok (.iload_n 1, 1) := by decide +kernel
theorem dX9_load_1 : decode cX9_load 1 = .ok (.ifCond .le 28, 3) := by decide +kernel
theorem dX9_load_4 : decode cX9_load 4 = .ok (.aload_n 0, 1) := by decide +kernel
theorem dX9_load_5 : decode cX9_load 5 = .ok (.iload_n 1, 1) := by decide +kernel
theorem dX9_load_6 : decode cX9_load 6 = .ok (.iconst 1, 1) := by decide +kernel
theorem dX9_load_7 : decode cX9_load 7 = .ok (.isub, 1) := by decide +kernel
theorem dX9_load_8 : decode cX9_load 8 = .ok (.invokevirtual 98, 3) := by decide +kernel
theorem dX9_load_11 : decode cX9_load 11 = .ok (.ifCond .eq 18, 3) := by decide +kernel
theorem dX9_load_14 : decode cX9_load 14 = .ok (.aload_n 0, 1) := by decide +kernel
theorem dX9_load_15 : decode cX9_load 15 = .ok (.getfield 13, 3) := by decide +kernel
theorem dX9_load_18 : decode cX9_load 18 = .ok (.iconst 4, 1) := by decide +kernel
theorem dX9_load_19 : decode cX9_load 19 = .ok (.iload_n 1, 1) := by decide +kernel
theorem dX9_load_20 : decode cX9_load 20 = .ok (.iadd, 1) := by decide +kernel
theorem dX9_load_21 : decode cX9_load 21 = .ok (.iconst 1, 1) := by decide +kernel
theorem dX9_load_22 : decode cX9_load 22 = .ok (.isub, 1) := by decide +kernel
theorem dX9_load_23 : decode cX9_load 23 = .ok (.iaload, 1) := by decide +kernel
theorem dX9_load_24 : decode cX9_load 24 = .ok (.iconst 2, 1) := by decide +kernel
theorem dX9_load_25 : decode cX9_load 25 = .ok (.idiv, 1) := by decide +kernel
theorem dX9_load_26 : decode cX9_load 26 = .ok (.goto 4, 3) := by decide +kernel
theorem dX9_load_29 : decode cX9_load 29 = .ok (.iconst 0, 1) := by decide +kernel
theorem dX9_load_30 : decode cX9_load 30 = .ok (.istore_n 2, 1) := by decide +kernel
theorem dX9_load_31 : decode cX9_load 31 = .ok (.iload_n 1, 1) := by decide +kernel
theorem dX9_load_32 : decode cX9_load 32 = .ok (.aload_n 0, 1) := by decide +kernel
theorem dX9_load_33 : decode cX9_load 33 = .ok (.getfield 13, 3) := by decide +kernel
theorem dX9_load_36 : decode cX9_load 36 = .ok (.iconst 0, 1) := by decide +kernel
theorem dX9_load_37 : decode cX9_load 37 = .ok (.iaload, 1) := by decide +kernel
theorem dX9_load_38 : decode cX9_load 38 = .ok (.iconst 1, 1) := by decide +kernel
theorem dX9_load_39 : decode cX9_load 39 = .ok (.isub, 1) := by decide +kernel
theorem dX9_load_40 : decode cX9_load 40 = .ok (.if_icmp .ge 28, 3) := by decide +kernel
theorem dX9_load_43 : decode cX9_load 43 = .ok (.aload_n 0, 1) := by decide +kernel
theorem dX9_load_44 : decode cX9_load 44 = .ok (.iload_n 1, 1) := by decide +kernel
theorem dX9_load_45 : decode cX9_load 45 = .ok (.iconst 1, 1) := by decide +kernel
theorem dX9_load_46 : decode cX9_load 46 = .ok (.iadd, 1) := by decide +kernel
theorem dX9_load_47 : decode cX9_load 47 = .ok (.invokevirtual 98, 3) := by decide +kernel
theorem dX9_load_50 : decode cX9_load 50 = .ok (.ifCond .eq 18, 3) := by decide +kernel
theorem dX9_load_53 : decode cX9_load 53 = .ok (.aload_n 0, 1) := by decide +kernel
theorem dX9_load_54 : decode cX9_load 54 = .ok (.getfield 13, 3) := by decide +kernel
theorem dX9_load_57 : decode cX9_load 57 = .ok (.iconst 4, 1) := by decide +kernel
theorem dX9_load_58 : decode cX9_load 58 = .ok (.iload_n 1, 1) := by decide +kernel
theorem dX9_load_59 : decode cX9_load 59 = .ok (.iadd, 1) := by decide +kernel
theorem dX9_load_60 : decode cX9_load 60 = .ok (.iconst 1, 1) := by decide +kernel
theorem dX9_load_61 : decode cX9_load 61 = .ok (.iadd, 1) := by decide +kernel
theorem dX9_load_62 : decode cX9_load 62 = .ok (.iaload, 1) := by decide +kernel
theorem dX9_load_63 : decode cX9_load 63 = .ok (.iconst 2, 1) := by decide +kernel
theorem dX9_load_64 : decode cX9_load 64 = .ok (.idiv, 1) := by decide +kernel
theorem dX9_load_65 : decode cX9_load 65 = .ok (.goto 4, 3) := by decide +kernel
theorem dX9_load_68 : decode cX9_load 68 = .ok (.iconst 0, 1) := by decide +kernel
theorem dX9_load_69 : decode cX9_load 69 = .ok (.istore_n 3, 1) := by decide +kernel
theorem dX9_load_70 : decode cX9_load 70 = .ok (.aload_n 0, 1) := by decide +kernel
theorem dX9_load_71 : decode cX9_load 71 = .ok (.getfield 13, 3) := by decide +kernel
theorem dX9_load_74 : decode cX9_load 74 = .ok (.iconst 4, 1) := by decide +kernel
theorem dX9_load_75 : decode cX9_load 75 = .ok (.iload_n 1, 1) := by decide +kernel
theorem dX9_load_76 : decode cX9_load 76 = .ok (.iadd, 1) := by decide +kernel
theorem dX9_load_77 : decode cX9_load 77 = .ok (.iaload, 1) := by decide +kernel
theorem dX9_load_78 : decode cX9_load 78 = .ok (.iload_n 2, 1) := by decide +kernel
theorem dX9_load_79 : decode cX9_load 79 = .ok (.iadd, 1) := by decide +kernel
theorem dX9_load_80 : decode cX9_load 80 = .ok (.iload_n 3, 1) := by decide +kernel
theorem dX9_load_81 : decode cX9_load 81 = .ok (.iadd, 1) := by decide +kernel
theorem dX9_load_82 : decode cX9_load 82 = .ok (.ireturn, 1) := by decide +kernel
theorem dX9_strengths_0 : decode cX9_strengths 0 = .ok (.iconst 0, 1) := by decide +kernel
theorem dX9_strengths_1 : decode cX9_strengths 1 = .ok (.istore_n 2, 1) := by decide +kernel
theorem dX9_strengths_2 : decode cX9_strengths 2 = .ok (.iconst 0, 1) := by decide +kernel
theorem dX9_strengths_3 : decode cX9_strengths 3 = .ok (.istore_n 3, 1) := by decide +kernel
theorem dX9_strengths_4 : decode cX9_strengths 4 = .ok (.iload_n 3, 1) := by decide +kernel
theorem dX9_strengths_5 : decode cX9_strengths 5 = .ok (.aload_n 0, 1) := by decide +kernel
theorem dX9_strengths_6 : decode cX9_strengths 6 = .ok (.getfield 13, 3) := by decide +kernel
theorem dX9_strengths_9 : decode cX9_strengths 9 = .ok (.iconst 1, 1) := by decide +kernel
theorem dX9_strengths_10 : decode cX9_strengths 10 = .ok (.iaload, 1) := by decide +kernel
theorem dX9_strengths_11 : decode cX9_strengths 11 = .ok (.if_icmp .ge 51, 3) := by decide +kernel
theorem dX9_strengths_14 : decode cX9_strengths 14 = .ok (.iload_n 2, 1) := by decide +kernel
theorem dX9_strengths_15 : decode cX9_strengths 15 = .ok (.aload_n 0, 1) := by decide +kernel
theorem dX9_strengths_16 : decode cX9_strengths 16 = .ok (.getfield 22, 3) := by decide +kernel
theorem dX9_strengths_19 : decode cX9_strengths 19 = .ok (.iconst 1, 1) := by decide +kernel
theorem dX9_strengths_20 : decode cX9_strengths 20 = .ok (.iaload, 1) := by decide +kernel
theorem dX9_strengths_21 : decode cX9_strengths 21 = .ok (.iload_n 3, 1) := by decide +kernel
theorem dX9_strengths_22 : decode cX9_strengths 22 = .ok (.invokestatic 94, 3) := by decide +kernel
theorem dX9_strengths_25 : decode cX9_strengths 25 = .ok (.ifCond .eq 28, 3) := by decide +kernel
theorem dX9_strengths_28 : decode cX9_strengths 28 = .ok (.aload_n 0, 1) := by decide +kernel
theorem dX9_strengths_29 : decode cX9_strengths 29 = .ok (.getfield 22, 3) := by decide +kernel
theorem dX9_strengths_32 : decode cX9_strengths 32 = .ok (.bipush 9, 2) := by decide +kernel
theorem dX9_strengths_34 : decode cX9_strengths 34 = .ok (.iload_n 3, 1) := by decide +kernel
theorem dX9_strengths_35 : decode cX9_strengths 35 = .ok (.iadd, 1) := by decide +kernel
theorem dX9_strengths_36 : decode cX9_strengths 36 = .ok (.iaload, 1) := by decide +kernel
theorem dX9_strengths_37 : decode cX9_strengths 37 = .ok (.iload_n 1, 1) := by decide +kernel
theorem dX9_strengths_38 : decode cX9_strengths 38 = .ok (.if_icmp .ne 15, 3) := by decide +kernel
theorem dX9_strengths_41 : decode cX9_strengths 41 = .ok (.aload_n 0, 1) := by decide +kernel
theorem dX9_strengths_42 : decode cX9_strengths 42 = .ok (.getfield 13, 3) := by decide +kernel
theorem dX9_strengths_45 : decode cX9_strengths 45 = .ok (.bipush 26, 2) := by decide +kernel
theorem dX9_strengths_47 : decode cX9_strengths 47 = .ok (.iload_n 3, 1) := by decide +kernel
theorem dX9_strengths_48 : decode cX9_strengths 48 = .ok (.iadd, 1) := by decide +kernel
theorem dX9_strengths_49 : decode cX9_strengths 49 = .ok (.iaload, 1) := by decide +kernel
theorem dX9_strengths_50 : decode cX9_strengths 50 = .ok (.goto 4, 3) := by decide +kernel
theorem dX9_strengths_53 : decode cX9_strengths 53 = .ok (.iconst 0, 1) := by decide +kernel
theorem dX9_strengths_54 : decode cX9_strengths 54 = .ok (.iadd, 1) := by decide +kernel
theorem dX9_strengths_55 : decode cX9_strengths 55 = .ok (.istore_n 2, 1) := by decide +kernel
theorem dX9_strengths_56 : decode cX9_strengths 56 = .ok (.iinc 3 1, 3) := by decide +kernel
theorem dX9_strengths_59 : decode cX9_strengths 59 = .ok (.goto (-55), 3) := by decide +kernel
theorem dX9_strengths_62 : decode cX9_strengths 62 = .ok (.iload_n 2, 1) := by decide +kernel
theorem dX9_strengths_63 : decode cX9_strengths 63 = .ok (.ireturn, 1) := by decide +kernel
theorem dX9_helps_0 : decode cX9_helps 0 = .ok (.aload_n 0, 1) := by decide +kernel
theorem dX9_helps_1 : decode cX9_helps 1 = .ok (.iload_n 1, 1) := by decide +kernel
theorem dX9_helps_2 : decode cX9_helps 2 = .ok (.invokevirtual 101, 3) := by decide +kernel
theorem dX9_helps_5 : decode cX9_helps 5 = .ok (.ifCond .eq 11, 3) := by decide +kernel
theorem dX9_helps_8 : decode cX9_helps 8 = .ok (.aload_n 0, 1) := by decide +kernel
theorem dX9_helps_9 : decode cX9_helps 9 = .ok (.iload_n 1, 1) := by decide +kernel
theorem dX9_helps_10 : decode cX9_helps 10 = .ok (.invokevirtual 98, 3) := by decide +kernel
theorem dX9_helps_13 : decode cX9_helps 13 = .ok (.ifCond .eq 5, 3) := by decide +kernel
theorem dX9_helps_16 : decode cX9_helps 16 = .ok (.iconst 0, 1) := by decide +kernel
theorem dX9_helps_17 : decode cX9_helps 17 = .ok (.ireturn, 1) := by decide +kernel
theorem dX9_helps_18 : decode cX9_helps 18 = .ok (.aload_n 0, 1) := by decide +kernel
theorem dX9_helps_19 : decode cX9_helps 19 = .ok (.iload_n 1, 1) := by decide +kernel
theorem dX9_helps_20 : decode cX9_helps 20 = .ok (.invokevirtual 104, 3) := by decide +kernel
theorem dX9_helps_23 : decode cX9_helps 23 = .ok (.aload_n 0, 1) := by decide +kernel
theorem dX9_helps_24 : decode cX9_helps 24 = .ok (.iload_n 1, 1) := by decide +kernel
theorem dX9_helps_25 : decode cX9_helps 25 = .ok (.invokevirtual 107, 3) := by decide +kernel
theorem dX9_helps_28 : decode cX9_helps 28 = .ok (.isub, 1) := by decide +kernel
theorem dX9_helps_29 : decode cX9_helps 29 = .ok (.istore_n 2, 1) := by decide +kernel
theorem dX9_helps_30 : decode cX9_helps 30 = .ok (.iload_n 2, 1) := by decide +kernel
theorem dX9_helps_31 : decode cX9_helps 31 = .ok (.ifCond .le 9, 3) := by decide +kernel
theorem dX9_helps_34 : decode cX9_helps 34 = .ok (.iload_n 2, 1) := by decide +kernel
theorem dX9_helps_35 : decode cX9_helps 35 = .ok (.iconst 2, 1) := by decide +kernel
theorem dX9_helps_36 : decode cX9_helps 36 = .ok (.idiv, 1) := by decide +kernel
theorem dX9_helps_37 : decode cX9_helps 37 = .ok (.goto 4, 3) := by decide +kernel
theorem dX9_helps_40 : decode cX9_helps 40 = .ok (.iconst 0, 1) := by decide +kernel
theorem dX9_helps_41 : decode cX9_helps 41 = .ok (.ireturn, 1) := by decide +kernel
theorem dX9_props_0 : decode cX9_props 0 = .ok (.aload_n 0, 1) := by decide +kernel
theorem dX9_props_1 : decode cX9_props 1 = .ok (.iload_n 1, 1) := by decide +kernel
theorem dX9_props_2 : decode cX9_props 2 = .ok (.invokevirtual 104, 3) := by decide +kernel
theorem dX9_props_5 : decode cX9_props 5 = .ok (.aload_n 0, 1) := by decide +kernel
theorem dX9_props_6 : decode cX9_props 6 = .ok (.iload_n 1, 1) := by decide +kernel
theorem dX9_props_7 : decode cX9_props 7 = .ok (.iconst 1, 1) := by decide +kernel
theorem dX9_props_8 : decode cX9_props 8 = .ok (.isub, 1) := by decide +kernel
theorem dX9_props_9 : decode cX9_props 9 = .ok (.invokevirtual 110, 3) := by decide +kernel
theorem dX9_props_12 : decode cX9_props 12 = .ok (.iadd, 1) := by decide +kernel
theorem dX9_props_13 : decode cX9_props 13 = .ok (.aload_n 0, 1) := by decide +kernel
theorem dX9_props_14 : decode cX9_props 14 = .ok (.iload_n 1, 1) := by decide +kernel
theorem dX9_props_15 : decode cX9_props 15 = .ok (.iconst 1, 1) := by decide +kernel
theorem dX9_props_16 : decode cX9_props 16 = .ok (.iadd, 1) := by decide +kernel
theorem dX9_props_17 : decode cX9_props 17 = .ok (.invokevirtual 110, 3) := by decide +kernel
theorem dX9_props_20 : decode cX9_props 20 = .ok (.iadd, 1) := by decide +kernel
theorem dX9_props_21 : decode cX9_props 21 = .ok (.ireturn, 1) := by decide +kernel
theorem dX9_isHeld_0 : decode cX9_isHeld 0 = .ok (.aload_n 0, 1) := by decide +kernel
theorem dX9_isHeld_1 : decode cX9_isHeld 1 = .ok (.iload_n 1, 1) := by decide +kernel
theorem dX9_isHeld_2 : decode cX9_isHeld 2 = .ok (.invokevirtual 98, 3) := by decide +kernel
theorem dX9_isHeld_5 : decode cX9_isHeld 5 = .ok (.ifCond .ne 20, 3) := by decide +kernel
theorem dX9_isHeld_8 : decode cX9_isHeld 8 = .ok (.aload_n 0, 1) := by decide +kernel
theorem dX9_isHeld_9 : decode cX9_isHeld 9 = .ok (.iload_n 1, 1) := by decide +kernel
theorem dX9_isHeld_10 : decode cX9_isHeld 10 = .ok (.invokevirtual 113, 3) := by decide +kernel
theorem dX9_isHeld_13 : decode cX9_isHeld 13 = .ok (.aload_n 0, 1) := by decide +kernel
theorem dX9_isHeld_14 : decode cX9_isHeld 14 = .ok (.iload_n 1, 1) := by decide +kernel
theorem dX9_isHeld_15 : decode cX9_isHeld 15 = .ok (.invokevirtual 107, 3) := by decide +kernel
theorem dX9_isHeld_18 : decode cX9_isHeld 18 = .ok (.if_icmp .lt 7, 3) := by decide +kernel
theorem dX9_isHeld_21 : decode cX9_isHeld 21 = .ok (.iconst 1, 1) := by decide +kernel
theorem dX9_isHeld_22 : decode cX9_isHeld 22 = .ok (.goto 4, 3) := by decide +kernel
theorem dX9_isHeld_25 : decode cX9_isHeld 25 = .ok (.iconst 0, 1) := by decide +kernel
theorem dX9_isHeld_26 : decode cX9_isHeld 26 = .ok (.ireturn, 1) := by decide +kernel
theorem dX9_heldNow_0 : decode cX9_heldNow 0 = .ok (.iconst 0, 1) := by decide +kernel
theorem dX9_heldNow_1 : decode cX9_heldNow 1 = .ok (.istore_n 1, 1) := by decide +kernel
theorem dX9_heldNow_2 : decode cX9_heldNow 2 = .ok (.iconst 0, 1) := by decide +kernel
theorem dX9_heldNow_3 : decode cX9_heldNow 3 = .ok (.istore_n 2, 1) := by decide +kernel
theorem dX9_heldNow_4 : decode cX9_heldNow 4 = .ok (.iload_n 2, 1) := by decide +kernel
theorem dX9_heldNow_5 : decode cX9_heldNow 5 = .ok (.aload_n 0, 1) := by decide +kernel
theorem dX9_heldNow_6 : decode cX9_heldNow 6 = .ok (.getfield 13, 3) := by decide +kernel
theorem dX9_heldNow_9 : decode cX9_heldNow 9 = .ok (.iconst 0, 1) := by decide +kernel
theorem dX9_heldNow_10 : decode cX9_heldNow 10 = .ok (.iaload, 1) := by decide +kernel
theorem dX9_heldNow_11 : decode cX9_heldNow 11 = .ok (.if_icmp .ge 27, 3) := by decide +kernel
theorem dX9_heldNow_14 : decode cX9_heldNow 14 = .ok (.iload_n 1, 1) := by decide +kernel
theorem dX9_heldNow_15 : decode cX9_heldNow 15 = .ok (.aload_n 0, 1) := by decide +kernel
theorem dX9_heldNow_16 : decode cX9_heldNow 16 = .ok (.iload_n 2, 1) := by decide +kernel
theorem dX9_heldNow_17 : decode cX9_heldNow 17 = .ok (.invokevirtual 116, 3) := by decide +kernel
theorem dX9_heldNow_20 : decode cX9_heldNow 20 = .ok (.ifCond .eq 9, 3) := by decide +kernel
theorem dX9_heldNow_23 : decode cX9_heldNow 23 = .ok (.iconst 1, 1) := by decide +kernel
theorem dX9_heldNow_24 : decode cX9_heldNow 24 = .ok (.iload_n 2, 1) := by decide +kernel
theorem dX9_heldNow_25 : decode cX9_heldNow 25 = .ok (.ishl, 1) := by decide +kernel
theorem dX9_heldNow_26 : decode cX9_heldNow 26 = .ok (.goto 4, 3) := by decide +kernel
theorem dX9_heldNow_29 : decode cX9_heldNow 29 = .ok (.iconst 0, 1) := by decide +kernel
theorem dX9_heldNow_30 : decode cX9_heldNow 30 = .ok (.ior, 1) := by decide +kernel
theorem dX9_heldNow_31 : decode cX9_heldNow 31 = .ok (.istore_n 1, 1) := by decide +kernel
theorem dX9_heldNow_32 : decode cX9_heldNow 32 = .ok (.iinc 2 1, 3) := by decide +kernel
theorem dX9_heldNow_35 : decode cX9_heldNow 35 = .ok (.goto (-31), 3) := by decide +kernel
theorem dX9_heldNow_38 : decode cX9_heldNow 38 = .ok (.iload_n 1, 1) := by decide +kernel
theorem dX9_heldNow_39 : decode cX9_heldNow 39 = .ok (.ireturn, 1) := by decide +kernel
theorem dX9_bay_0 : decode cX9_bay 0 = .ok (.aload_n 0, 1) := by decide +kernel
theorem dX9_bay_1 : decode cX9_bay 1 = .ok (.iload_n 1, 1) := by decide +kernel
theorem dX9_bay_2 : decode cX9_bay 2 = .ok (.invokevirtual 101, 3) := by decide +kernel
theorem dX9_bay_5 : decode cX9_bay 5 = .ok (.ifCond .eq 13, 3) := by decide +kernel
theorem dX9_bay_8 : decode cX9_bay 8 = .ok (.iload_n 2, 1) := by decide +kernel
theorem dX9_bay_9 : decode cX9_bay 9 = .ok (.iconst 0, 1) := by decide +kernel
theorem dX9_bay_10 : decode cX9_bay 10 = .ok (.bipush 6, 2) := by decide +kernel
theorem dX9_bay_12 : decode cX9_bay 12 = .ok (.invokestatic 52, 3) := by decide +kernel
theorem dX9_bay_15 : decode cX9_bay 15 = .ok (.ifCond .ne 5, 3) := by decide +kernel
theorem dX9_bay_18 : decode cX9_bay 18 = .ok (.iconst (-1), 1) := by decide +kernel
theorem dX9_bay_19 : decode cX9_bay 19 = .ok (.ireturn, 1) := by decide +kernel
theorem dX9_bay_20 : decode cX9_bay 20 = .ok (.aload_n 0, 1) := by decide +kernel
theorem dX9_bay_21 : decode cX9_bay 21 = .ok (.iload_n 1, 1) := by decide +kernel
theorem dX9_bay_22 : decode cX9_bay 22 = .ok (.invokevirtual 98, 3) := by decide +kernel
theorem dX9_bay_25 : decode cX9_bay 25 = .ok (.ifCond .eq 14, 3) := by decide +kernel
theorem dX9_bay_28 : decode cX9_bay 28 = .ok (.iload_n 2, 1) := by decide +kernel
theorem dX9_bay_29 : decode cX9_bay 29 = .ok (.iconst 2, 1) := by decide +kernel
theorem dX9_bay_30 : decode cX9_bay 30 = .ok (.iconst 5, 1) := by decide +kernel
theorem dX9_bay_31 : decode cX9_bay 31 = .ok (.invokestatic 52, 3) := by decide +kernel
theorem dX9_bay_34 : decode cX9_bay 34 = .ok (.ifCond .eq 5, 3) := by decide +kernel
theorem dX9_bay_37 : decode cX9_bay 37 = .ok (.iconst 0, 1) := by decide +kernel
theorem dX9_bay_38 : decode cX9_bay 38 = .ok (.ireturn, 1) := by decide +kernel
theorem dX9_bay_39 : decode cX9_bay 39 = .ok (.iload_n 2, 1) := by decide +kernel
theorem dX9_bay_40 : decode cX9_bay 40 = .ok (.tableswitch 95 0 5 #[40, 49, 59, 65, 71, 85], 40) := by decide +kernel
theorem dX9_bay_80 : decode cX9_bay 80 = .ok (.aload_n 0, 1) := by decide +kernel
theorem dX9_bay_81 : decode cX9_bay 81 = .ok (.getfield 13, 3) := by decide +kernel
theorem dX9_bay_84 : decode cX9_bay 84 = .ok (.iconst 4, 1) := by decide +kernel
theorem dX9_bay_85 : decode cX9_bay 85 = .ok (.iload_n 1, 1) := by decide +kernel
theorem dX9_bay_86 : decode cX9_bay 86 = .ok (.iadd, 1) := by decide +kernel
theorem dX9_bay_87 : decode cX9_bay 87 = .ok (.iaload, 1) := by decide +kernel
theorem dX9_bay_88 : decode cX9_bay 88 = .ok (.ireturn, 1) := by decide +kernel
theorem dX9_bay_89 : decode cX9_bay 89 = .ok (.aload_n 0, 1) := by decide +kernel
theorem dX9_bay_90 : decode cX9_bay 90 = .ok (.getfield 13, 3) := by decide +kernel
theorem dX9_bay_93 : decode cX9_bay 93 = .ok (.bipush 12, 2) := by decide +kernel
theorem dX9_bay_95 : decode cX9_bay 95 = .ok (.iload_n 1, 1) := by decide +kernel
theorem dX9_bay_96 : decode cX9_bay 96 = .ok (.iadd, 1) := by decide +kernel
theorem dX9_bay_97 : decode cX9_bay 97 = .ok (.iaload, 1) := by decide +kernel
theorem dX9_bay_98 : decode cX9_bay 98 = .ok (.ireturn, 1) := by decide +kernel
theorem dX9_bay_99 : decode cX9_bay 99 = .ok (.aload_n 0, 1) := by decide +kernel
theorem dX9_bay_100 : decode cX9_bay 100 = .ok (.iload_n 1, 1) := by decide +kernel
theorem dX9_bay_101 : decode cX9_bay 101 = .ok (.invokevirtual 107, 3) := by decide +kernel
theorem dX9_bay_104 : decode cX9_bay 104 = .ok (.ireturn, 1) := by decide +kernel
theorem dX9_bay_105 : decode cX9_bay 105 = .ok (.aload_n 0, 1) := by decide +kernel
theorem dX9_bay_106 : decode cX9_bay 106 = .ok (.iload_n 1, 1) := by decide +kernel
theorem dX9_bay_107 : decode cX9_bay 107 = .ok (.invokevirtual 113, 3) := by decide +kernel
theorem dX9_bay_110 : decode cX9_bay 110 = .ok (.ireturn, 1) := by decide +kernel
theorem dX9_bay_111 : decode cX9_bay 111 = .ok (.aload_n 0, 1) := by decide +kernel
theorem dX9_bay_112 : decode cX9_bay 112 = .ok (.iload_n 1, 1) := by decide +kernel
theorem dX9_bay_113 : decode cX9_bay 113 = .ok (.invokevirtual 116, 3) := by decide +kernel
theorem dX9_bay_116 : decode cX9_bay 116 = .ok (.ifCond .eq 7, 3) := by decide +kernel
theorem dX9_bay_119 : decode cX9_bay 119 = .ok (.iconst 1, 1) := by decide +kernel
theorem dX9_bay_120 : decode cX9_bay 120 = .ok (.goto 4, 3) := by decide +kernel
theorem dX9_bay_123 : decode cX9_bay 123 = .ok (.iconst 0, 1) := by decide +kernel
theorem dX9_bay_124 : decode cX9_bay 124 = .ok (.ireturn, 1) := by decide +kernel
theorem dX9_bay_125 : decode cX9_bay 125 = .ok (.aload_n 0, 1) := by decide +kernel
theorem dX9_bay_126 : decode cX9_bay 126 = .ok (.getfield 22, 3) := by decide +kernel
theorem dX9_bay_129 : decode cX9_bay 129 = .ok (.bipush 15, 2) := by decide +kernel
theorem dX9_bay_131 : decode cX9_bay 131 = .ok (.iload_n 1, 1) := by decide +kernel
theorem dX9_bay_132 : decode cX9_bay 132 = .ok (.iadd, 1) := by decide +kernel
theorem dX9_bay_133 : decode cX9_bay 133 = .ok (.iaload, 1) := by decide +kernel
theorem dX9_bay_134 : decode cX9_bay 134 = .ok (.ireturn, 1) := by decide +kernel
theorem dX9_bay_135 : decode cX9_bay 135 = .ok (.aload_n 0, 1) := by decide +kernel
theorem dX9_bay_136 : decode cX9_bay 136 = .ok (.iload_n 1, 1) := by decide +kernel
theorem dX9_bay_137 : decode cX9_bay 137 = .ok (.invokevirtual 98, 3) := by decide +kernel
theorem dX9_bay_140 : decode cX9_bay 140 = .ok (.ifCond .eq 7, 3) := by decide +kernel
theorem dX9_bay_143 : decode cX9_bay 143 = .ok (.iconst 1, 1) := by decide +kernel
theorem dX9_bay_144 : decode cX9_bay 144 = .ok (.goto 4, 3) := by decide +kernel
theorem dX9_bay_147 : decode cX9_bay 147 = .ok (.iconst 0, 1) := by decide +kernel
theorem dX9_bay_148 : decode cX9_bay 148 = .ok (.ireturn, 1) := by decide +kernel
theorem dX9_buttress_0 : decode cX9_buttress 0 = .ok (.aload_n 0, 1) := by decide +kernel
theorem dX9_buttress_1 : decode cX9_buttress 1 = .ok (.iload_n 1, 1) := by decide +kernel
theorem dX9_buttress_2 : decode cX9_buttress 2 = .ok (.invokevirtual 119, 3) := by decide +kernel
theorem dX9_buttress_5 : decode cX9_buttress 5 = .ok (.ifCond .ne 5, 3) := by decide +kernel
theorem dX9_buttress_8 : decode cX9_buttress 8 = .ok (.iconst (-1), 1) := by decide +kernel
theorem dX9_buttress_9 : decode cX9_buttress 9 = .ok (.ireturn, 1) := by decide +kernel
theorem dX9_buttress_10 : decode cX9_buttress 10 = .ok (.iload_n 2, 1) := by decide +kernel
theorem dX9_buttress_11 : decode cX9_buttress 11 = .ok (.tableswitch 97 0 5 #[37, 47, 57, 67, 77, 86], 37) := by decide +kernel
theorem dX9_buttress_48 : decode cX9_buttress 48 = .ok (.aload_n 0, 1) := by decide +kernel
theorem dX9_buttress_49 : decode cX9_buttress 49 = .ok (.getfield 13, 3) := by decide +kernel
theorem dX9_buttress_52 : decode cX9_buttress 52 = .ok (.bipush 20, 2) := by decide +kernel
theorem dX9_buttress_54 : decode cX9_buttress 54 = .ok (.iload_n 1, 1) := by decide +kernel
theorem dX9_buttress_55 : decode cX9_buttress 55 = .ok (.iadd, 1) := by decide +kernel
theorem dX9_buttress_56 : decode cX9_buttress 56 = .ok (.iaload, 1) := by decide +kernel
theorem dX9_buttress_57 : decode cX9_buttress 57 = .ok (.ireturn, 1) := by decide +kernel
theorem dX9_buttress_58 : decode cX9_buttress 58 = .ok (.aload_n 0, 1) := by decide +kernel
theorem dX9_buttress_59 : decode cX9_buttress 59 = .ok (.getfield 13, 3) := by decide +kernel
theorem dX9_buttress_62 : decode cX9_buttress 62 = .ok (.bipush 26, 2) := by decide +kernel
theorem dX9_buttress_64 : decode cX9_buttress 64 = .ok (.iload_n 1, 1) := by decide +kernel
theorem dX9_buttress_65 : decode cX9_buttress 65 = .ok (.iadd, 1) := by decide +kernel
theorem dX9_buttress_66 : decode cX9_buttress 66 = .ok (.iaload, 1) := by decide +kernel
theorem dX9_buttress_67 : decode cX9_buttress 67 = .ok (.ireturn, 1) := by decide +kernel
theorem dX9_buttress_68 : decode cX9_buttress 68 = .ok (.aload_n 0, 1) := by decide +kernel
theorem dX9_buttress_69 : decode cX9_buttress 69 = .ok (.getfield 22, 3) := by decide +kernel
theorem dX9_buttress_72 : decode cX9_buttress 72 = .ok (.bipush 9, 2) := by decide +kernel
theorem dX9_buttress_74 : decode cX9_buttress 74 = .ok (.iload_n 1, 1) := by decide +kernel
theorem dX9_buttress_75 : decode cX9_buttress 75 = .ok (.iadd, 1) := by decide +kernel
theorem dX9_buttress_76 : decode cX9_buttress 76 = .ok (.iaload, 1) := by decide +kernel
theorem dX9_buttress_77 : decode cX9_buttress 77 = .ok (.ireturn, 1) := by decide +kernel
theorem dX9_buttress_78 : decode cX9_buttress 78 = .ok (.aload_n 0, 1) := by decide +kernel
theorem dX9_buttress_79 : decode cX9_buttress 79 = .ok (.getfield 13, 3) := by decide +kernel
theorem dX9_buttress_82 : decode cX9_buttress 82 = .ok (.bipush 32, 2) := by decide +kernel
theorem dX9_buttress_84 : decode cX9_buttress 84 = .ok (.iload_n 1, 1) := by decide +kernel
theorem dX9_buttress_85 : decode cX9_buttress 85 = .ok (.iadd, 1) := by decide +kernel
theorem dX9_buttress_86 : decode cX9_buttress 86 = .ok (.iaload, 1) := by decide +kernel
theorem dX9_buttress_87 : decode cX9_buttress 87 = .ok (.ireturn, 1) := by decide +kernel
theorem dX9_buttress_88 : decode cX9_buttress 88 = .ok (.aload_n 0, 1) := by decide +kernel
theorem dX9_buttress_89 : decode cX9_buttress 89 = .ok (.getfield 22, 3) := by decide +kernel
theorem dX9_buttress_92 : decode cX9_buttress 92 = .ok (.iconst 3, 1) := by decide +kernel
theorem dX9_buttress_93 : decode cX9_buttress 93 = .ok (.iload_n 1, 1) := by decide +kernel
theorem dX9_buttress_94 : decode cX9_buttress 94 = .ok (.iadd, 1) := by decide +kernel
theorem dX9_buttress_95 : decode cX9_buttress 95 = .ok (.iaload, 1) := by decide +kernel
theorem dX9_buttress_96 : decode cX9_buttress 96 = .ok (.ireturn, 1) := by decide +kernel
theorem dX9_buttress_97 : decode cX9_buttress 97 = .ok (.aload_n 0, 1) := by decide +kernel
theorem dX9_buttress_98 : decode cX9_buttress 98 = .ok (.getfield 22, 3) := by decide +kernel
theorem dX9_buttress_101 : decode cX9_buttress 101 = .ok (.iconst 1, 1) := by decide +kernel
theorem dX9_buttress_102 : decode cX9_buttress 102 = .ok (.iaload, 1) := by decide +kernel
theorem dX9_buttress_103 : decode cX9_buttress 103 = .ok (.iload_n 1, 1) := by decide +kernel
theorem dX9_buttress_104 : decode cX9_buttress 104 = .ok (.ishr, 1) := by decide +kernel
theorem dX9_buttress_105 : decode cX9_buttress 105 = .ok (.iconst 1, 1) := by decide +kernel
theorem dX9_buttress_106 : decode cX9_buttress 106 = .ok (.iand, 1) := by decide +kernel
theorem dX9_buttress_107 : decode cX9_buttress 107 = .ok (.ireturn, 1) := by decide +kernel
theorem dX9_buttress_108 : decode cX9_buttress 108 = .ok (.iconst (-1), 1) := by decide +kernel
theorem dX9_buttress_109 : decode cX9_buttress 109 = .ok (.ireturn, 1) := by decide +kernel
theorem dX9_areCarts_0 : decode cX9_areCarts 0 = .ok (.aload_n 0, 1) := by decide +kernel
theorem dX9_areCarts_1 : decode cX9_areCarts 1 = .ok (.getfield 13, 3) := by decide +kernel
theorem dX9_areCarts_4 : decode cX9_areCarts 4 = .ok (.iconst 2, 1) := by decide +kernel
theorem dX9_areCarts_5 : decode cX9_areCarts 5 = .ok (.iaload, 1) := by decide +kernel
theorem dX9_areCarts_6 : decode cX9_areCarts 6 = .ok (.ifCond .le 27, 3) := by decide +kernel
theorem dX9_areCarts_9 : decode cX9_areCarts 9 = .ok (.aload_n 0, 1) := by decide +kernel
theorem dX9_areCarts_10 : decode cX9_areCarts 10 = .ok (.getfield 13, 3) := by decide +kernel
theorem dX9_areCarts_13 : decode cX9_areCarts 13 = .ok (.iconst 3, 1) := by decide +kernel
theorem dX9_areCarts_14 : decode cX9_areCarts 14 = .ok (.iaload, 1) := by decide +kernel
theorem dX9_areCarts_15 : decode cX9_areCarts 15 = .ok (.iload_n 1, 1) := by decide +kernel
theorem dX9_areCarts_16 : decode cX9_areCarts 16 = .ok (.aload_n 0, 1) := by decide +kernel
theorem dX9_areCarts_17 : decode cX9_areCarts 17 = .ok (.getfield 13, 3) := by decide +kernel
theorem dX9_areCarts_20 : decode cX9_areCarts 20 = .ok (.iconst 2, 1) := by decide +kernel
theorem dX9_areCarts_21 : decode cX9_areCarts 21 = .ok (.iaload, 1) := by decide +kernel
theorem dX9_areCarts_22 : decode cX9_areCarts 22 = .ok (.irem, 1) := by decide +kernel
theorem dX9_areCarts_23 : decode cX9_areCarts 23 = .ok (.invokestatic 94, 3) := by decide +kernel
theorem dX9_areCarts_26 : decode cX9_areCarts 26 = .ok (.ifCond .eq 7, 3) := by decide +kernel
theorem dX9_areCarts_29 : decode cX9_areCarts 29 = .ok (.iconst 1, 1) := by decide +kernel
theorem dX9_areCarts_30 : decode cX9_areCarts 30 = .ok (.goto 4, 3) := by decide +kernel
theorem dX9_areCarts_33 : decode cX9_areCarts 33 = .ok (.iconst 0, 1) := by decide +kernel
theorem dX9_areCarts_34 : decode cX9_areCarts 34 = .ok (.ireturn, 1) := by decide +kernel
theorem dX9_carts_0 : decode cX9_carts 0 = .ok (.iload_n 1, 1) := by decide +kernel
theorem dX9_carts_1 : decode cX9_carts 1 = .ok (.iconst 0, 1) := by decide +kernel
theorem dX9_carts_2 : decode cX9_carts 2 = .ok (.bipush 99, 2) := by decide +kernel
theorem dX9_carts_4 : decode cX9_carts 4 = .ok (.invokestatic 52, 3) := by decide +kernel
theorem dX9_carts_7 : decode cX9_carts 7 = .ok (.ifCond .ne 5, 3) := by decide +kernel
theorem dX9_carts_10 : decode cX9_carts 10 = .ok (.iconst (-1), 1) := by decide +kernel
theorem dX9_carts_11 : decode cX9_carts 11 = .ok (.ireturn, 1) := by decide +kernel
theorem dX9_carts_12 : decode cX9_carts 12 = .ok (.aload_n 0, 1) := by decide +kernel
theorem dX9_carts_13 : decode cX9_carts 13 = .ok (.aload_n 0, 1) := by decide +kernel
theorem dX9_carts_14 : decode cX9_carts 14 = .ok (.getfield 22, 3) := by decide +kernel
theorem dX9_carts_17 : decode cX9_carts 17 = .ok (.iconst 0, 1) := by decide +kernel
theorem dX9_carts_18 : decode cX9_carts 18 = .ok (.iaload, 1) := by decide +kernel
theorem dX9_carts_19 : decode cX9_carts 19 = .ok (.iload_n 1, 1) := by decide +kernel
theorem dX9_carts_20 : decode cX9_carts 20 = .ok (.iadd, 1) := by decide +kernel
theorem dX9_carts_21 : decode cX9_carts 21 = .ok (.invokevirtual 122, 3) := by decide +kernel
theorem dX9_carts_24 : decode cX9_carts 24 = .ok (.ifCond .eq 7, 3) := by decide +kernel
theorem dX9_carts_27 : decode cX9_carts 27 = .ok (.iconst 1, 1) := by decide +kernel
theorem dX9_carts_28 : decode cX9_carts 28 = .ok (.goto 4, 3) := by decide +kernel
theorem dX9_carts_31 : decode cX9_carts 31 = .ok (.iconst 0, 1) := by decide +kernel
theorem dX9_carts_32 : decode cX9_carts 32 = .ok (.ireturn, 1) := by decide +kernel
theorem dX9_keeps_0 : decode cX9_keeps 0 = .ok (.aload_n 0, 1) := by decide +kernel
theorem dX9_keeps_1 : decode cX9_keeps 1 = .ok (.getfield 88, 3) := by decide +kernel
theorem dX9_keeps_4 : decode cX9_keeps 4 = .ok (.bipush 8, 2) := by decide +kernel
theorem dX9_keeps_6 : decode cX9_keeps 6 = .ok (.if_icmp .ne 43, 3) := by decide +kernel
theorem dX9_keeps_9 : decode cX9_keeps 9 = .ok (.iconst 0, 1) := by decide +kernel
theorem dX9_keeps_10 : decode cX9_keeps 10 = .ok (.istore_n 1, 1) := by decide +kernel
theorem dX9_keeps_11 : decode cX9_keeps 11 = .ok (.iload_n 1, 1) := by decide +kernel
theorem dX9_keeps_12 : decode cX9_keeps 12 = .ok (.sipush 161, 3) := by decide +kernel
theorem dX9_keeps_15 : decode cX9_keeps 15 = .ok (.if_icmp .ge 24, 3) := by decide +kernel
theorem dX9_keeps_18 : decode cX9_keeps 18 = .ok (.aload_n 0, 1) := by decide +kernel
theorem dX9_keeps_19 : decode cX9_keeps 19 = .ok (.getfield 25, 3) := by decide +kernel
theorem dX9_keeps_22 : decode cX9_keeps 22 = .ok (.iload_n 1, 1) := by decide +kernel
theorem dX9_keeps_23 : decode cX9_keeps 23 = .ok (.aload_n 0, 1) := by decide +kernel
theorem dX9_keeps_24 : decode cX9_keeps 24 = .ok (.getfield 25, 3) := by decide +kernel
theorem dX9_keeps_27 : decode cX9_keeps 27 = .ok (.iload_n 1, 1) := by decide +kernel
theorem dX9_keeps_28 : decode cX9_keeps 28 = .ok (.bipush 23, 2) := by decide +kernel
theorem dX9_keeps_30 : decode cX9_keeps 30 = .ok (.iadd, 1) := by decide +kernel
theorem dX9_keeps_31 : decode cX9_keeps 31 = .ok (.iaload, 1) := by decide +kernel
theorem dX9_keeps_32 : decode cX9_keeps 32 = .ok (.iastore, 1) := by decide +kernel
theorem dX9_keeps_33 : decode cX9_keeps 33 = .ok (.iinc 1 1, 3) := by decide +kernel
theorem dX9_keeps_36 : decode cX9_keeps 36 = .ok (.goto (-25), 3) := by decide +kernel
theorem dX9_keeps_39 : decode cX9_keeps 39 = .ok (.aload_n 0, 1) := by decide +kernel
theorem dX9_keeps_40 : decode cX9_keeps 40 = .ok (.dup, 1) := by decide +kernel
theorem dX9_keeps_41 : decode cX9_keeps 41 = .ok (.getfield 88, 3) := by decide +kernel
theorem dX9_keeps_44 : decode cX9_keeps 44 = .ok (.iconst 1, 1) := by decide +kernel
theorem dX9_keeps_45 : decode cX9_keeps 45 = .ok (.isub, 1) := by decide +kernel
theorem dX9_keeps_46 : decode cX9_keeps 46 = .ok (.putfield 88, 3) := by decide +kernel
theorem dX9_keeps_49 : decode cX9_keeps 49 = .ok (.iconst 0, 1) := by decide +kernel
theorem dX9_keeps_50 : decode cX9_keeps 50 = .ok (.istore_n 1, 1) := by decide +kernel
theorem dX9_keeps_51 : decode cX9_keeps 51 = .ok (.iload_n 1, 1) := by decide +kernel
theorem dX9_keeps_52 : decode cX9_keeps 52 = .ok (.bipush 23, 2) := by decide +kernel
theorem dX9_keeps_54 : decode cX9_keeps 54 = .ok (.if_icmp .ge 29, 3) := by decide +kernel
theorem dX9_keeps_57 : decode cX9_keeps 57 = .ok (.aload_n 0, 1) := by decide +kernel
theorem dX9_keeps_58 : decode cX9_keeps 58 = .ok (.getfield 25, 3) := by decide +kernel
theorem dX9_keeps_61 : decode cX9_keeps 61 = .ok (.bipush 23, 2) := by decide +kernel
theorem dX9_keeps_63 : decode cX9_keeps 63 = .ok (.aload_n 0, 1) := by decide +kernel
theorem dX9_keeps_64 : decode cX9_keeps 64 = .ok (.getfield 88, 3) := by decide +kernel
theorem dX9_keeps_67 : decode cX9_keeps 67 = .ok (.imul, 1) := by decide +kernel
theorem dX9_keeps_68 : decode cX9_keeps 68 = .ok (.iload_n 1, 1) := by decide +kernel
theorem dX9_keeps_69 : decode cX9_keeps 69 = .ok (.iadd, 1) := by decide +kernel
theorem dX9_keeps_70 : decode cX9_keeps 70 = .ok (.aload_n 0, 1) := by decide +kernel
theorem dX9_keeps_71 : decode cX9_keeps 71 = .ok (.getfield 22, 3) := by decide +kernel
theorem dX9_keeps_74 : decode cX9_keeps 74 = .ok (.iload_n 1, 1) := by decide +kernel
theorem dX9_keeps_75 : decode cX9_keeps 75 = .ok (.iaload, 1) := by decide +kernel
theorem dX9_keeps_76 : decode cX9_keeps 76 = .ok (.iastore, 1) := by decide +kernel
theorem dX9_keeps_77 : decode cX9_keeps 77 = .ok (.iinc 1 1, 3) := by decide +kernel
theorem dX9_keeps_80 : decode cX9_keeps 80 = .ok (.goto (-29), 3) := by decide +kernel
theorem dX9_keeps_83 : decode cX9_keeps 83 = .ok (.aload_n 0, 1) := by decide +kernel
theorem dX9_keeps_84 : decode cX9_keeps 84 = .ok (.dup, 1) := by decide +kernel
theorem dX9_keeps_85 : decode cX9_keeps 85 = .ok (.getfield 88, 3) := by decide +kernel
theorem dX9_keeps_88 : decode cX9_keeps 88 = .ok (.iconst 1, 1) := by decide +kernel
theorem dX9_keeps_89 : decode cX9_keeps 89 = .ok (.iadd, 1) := by decide +kernel
theorem dX9_keeps_90 : decode cX9_keeps 90 = .ok (.putfield 88, 3) := by decide +kernel
theorem dX9_keeps_93 : decode cX9_keeps 93 = .ok (.return_, 1) := by decide +kernel
theorem dX9_isAlone_0 : decode cX9_isAlone 0 = .ok (.iconst 1, 1) := by decide +kernel
theorem dX9_isAlone_1 : decode cX9_isAlone 1 = .ok (.istore_n 2, 1) := by decide +kernel
theorem dX9_isAlone_2 : decode cX9_isAlone 2 = .ok (.iconst 0, 1) := by decide +kernel
theorem dX9_isAlone_3 : decode cX9_isAlone 3 = .ok (.istore_n 3, 1) := by decide +kernel
theorem dX9_isAlone_4 : decode cX9_isAlone 4 = .ok (.iload_n 3, 1) := by decide +kernel
theorem dX9_isAlone_5 : decode cX9_isAlone 5 = .ok (.aload_n 0, 1) := by decide +kernel
theorem dX9_isAlone_6 : decode cX9_isAlone 6 = .ok (.getfield 13, 3) := by decide +kernel
theorem dX9_isAlone_9 : decode cX9_isAlone 9 = .ok (.iconst 1, 1) := by decide +kernel
theorem dX9_isAlone_10 : decode cX9_isAlone 10 = .ok (.iaload, 1) := by decide +kernel
theorem dX9_isAlone_11 : decode cX9_isAlone 11 = .ok (.if_icmp .ge 64, 3) := by decide +kernel
theorem dX9_isAlone_14 : decode cX9_isAlone 14 = .ok (.iload_n 2, 1) := by decide +kernel
theorem dX9_isAlone_15 : decode cX9_isAlone 15 = .ok (.ifCond .eq 52, 3) := by decide +kernel
theorem dX9_isAlone_18 : decode cX9_isAlone 18 = .ok (.iload_n 3, 1) := by decide +kernel
theorem dX9_isAlone_19 : decode cX9_isAlone 19 = .ok (.iload_n 1, 1) := by decide +kernel
theorem dX9_isAlone_20 : decode cX9_isAlone 20 = .ok (.if_icmp .eq 43, 3) := by decide +kernel
theorem dX9_isAlone_23 : decode cX9_isAlone 23 = .ok (.aload_n 0, 1) := by decide +kernel
theorem dX9_isAlone_24 : decode cX9_isAlone 24 = .ok (.getfield 22, 3) := by decide +kernel
theorem dX9_isAlone_27 : decode cX9_isAlone 27 = .ok (.iconst 1, 1) := by decide +kernel
theorem dX9_isAlone_28 : decode cX9_isAlone 28 = .ok (.iaload, 1) := by decide +kernel
theorem dX9_isAlone_29 : decode cX9_isAlone 29 = .ok (.iload_n 3, 1) := by decide +kernel
theorem dX9_isAlone_30 : decode cX9_isAlone 30 = .ok (.invokestatic 94, 3) := by decide +kernel
theorem dX9_isAlone_33 : decode cX9_isAlone 33 = .ok (.ifCond .eq 30, 3) := by decide +kernel
theorem dX9_isAlone_36 : decode cX9_isAlone 36 = .ok (.aload_n 0, 1) := by decide +kernel
theorem dX9_isAlone_37 : decode cX9_isAlone 37 = .ok (.getfield 22, 3) := by decide +kernel
theorem dX9_isAlone_40 : decode cX9_isAlone 40 = .ok (.bipush 9, 2) := by decide +kernel
theorem dX9_isAlone_42 : decode cX9_isAlone 42 = .ok (.iload_n 3, 1) := by decide +kernel
theorem dX9_isAlone_43 : decode cX9_isAlone 43 = .ok (.iadd, 1) := by decide +kernel
theorem dX9_isAlone_44 : decode cX9_isAlone 44 = .ok (.iaload, 1) := by decide +kernel
theorem dX9_isAlone_45 : decode cX9_isAlone 45 = .ok (.aload_n 0, 1) := by decide +kernel
theorem dX9_isAlone_46 : decode cX9_isAlone 46 = .ok (.getfield 22, 3) := by decide +kernel
theorem dX9_isAlone_49 : decode cX9_isAlone 49 = .ok (.bipush 9, 2) := by decide +kernel
theorem dX9_isAlone_51 : decode cX9_isAlone 51 = .ok (.iload_n 1, 1) := by decide +kernel
theorem dX9_isAlone_52 : decode cX9_isAlone 52 = .ok (.iadd, 1) := by decide +kernel
theorem dX9_isAlone_53 : decode cX9_isAlone 53 = .ok (.iaload, 1) := by decide +kernel
theorem dX9_isAlone_54 : decode cX9_isAlone 54 = .ok (.isub, 1) := by decide +kernel
theorem dX9_isAlone_55 : decode cX9_isAlone 55 = .ok (.iconst (-1), 1) := by decide +kernel
theorem dX9_isAlone_56 : decode cX9_isAlone 56 = .ok (.iconst 1, 1) := by decide +kernel
theorem dX9_isAlone_57 : decode cX9_isAlone 57 = .ok (.invokestatic 52, 3) := by decide +kernel
theorem dX9_isAlone_60 : decode cX9_isAlone 60 = .ok (.ifCond .ne 7, 3) := by decide +kernel
theorem dX9_isAlone_63 : decode cX9_isAlone 63 = .ok (.iconst 1, 1) := by decide +kernel
theorem dX9_isAlone_64 : decode cX9_isAlone 64 = .ok (.goto 4, 3) := by decide +kernel
theorem dX9_isAlone_67 : decode cX9_isAlone 67 = .ok (.iconst 0, 1) := by decide +kernel
theorem dX9_isAlone_68 : decode cX9_isAlone 68 = .ok (.istore_n 2, 1) := by decide +kernel
theorem dX9_isAlone_69 : decode cX9_isAlone 69 = .ok (.iinc 3 1, 3) := by decide +kernel
theorem dX9_isAlone_72 : decode cX9_isAlone 72 = .ok (.goto (-68), 3) := by decide +kernel
theorem dX9_isAlone_75 : decode cX9_isAlone 75 = .ok (.iload_n 2, 1) := by decide +kernel
theorem dX9_isAlone_76 : decode cX9_isAlone 76 = .ok (.ireturn, 1) := by decide +kernel
theorem dX9_passes_0 : decode cX9_passes 0 = .ok (.aload_n 0, 1) := by decide +kernel
theorem dX9_passes_1 : decode cX9_passes 1 = .ok (.invokevirtual 125, 3) := by decide +kernel
theorem dX9_passes_4 : decode cX9_passes 4 = .ok (.istore_n 1, 1) := by decide +kernel
theorem dX9_passes_5 : decode cX9_passes 5 = .ok (.iconst 0, 1) := by decide +kernel
theorem dX9_passes_6 : decode cX9_passes 6 = .ok (.istore_n 2, 1) := by decide +kernel
theorem dX9_passes_7 : decode cX9_passes 7 = .ok (.iconst 0, 1) := by decide +kernel
theorem dX9_passes_8 : decode cX9_passes 8 = .ok (.istore_n 3, 1) := by decide +kernel
theorem dX9_passes_9 : decode cX9_passes 9 = .ok (.iload_n 3, 1) := by decide +kernel
theorem dX9_passes_10 : decode cX9_passes 10 = .ok (.aload_n 0, 1) := by decide +kernel
theorem dX9_passes_11 : decode cX9_passes 11 = .ok (.getfield 13, 3) := by decide +kernel
theorem dX9_passes_14 : decode cX9_passes 14 = .ok (.iconst 1, 1) := by decide +kernel
theorem dX9_passes_15 : decode cX9_passes 15 = .ok (.iaload, 1) := by decide +kernel
theorem dX9_passes_16 : decode cX9_passes 16 = .ok (.if_icmp .ge 50, 3) := by decide +kernel
theorem dX9_passes_19 : decode cX9_passes 19 = .ok (.aload_n 0, 1) := by decide +kernel
theorem dX9_passes_20 : decode cX9_passes 20 = .ok (.getfield 13, 3) := by decide +kernel
theorem dX9_passes_23 : decode cX9_passes 23 = .ok (.bipush 20, 2) := by decide +kernel
theorem dX9_passes_25 : decode cX9_passes 25 = .ok (.iload_n 3, 1) := by decide +kernel
theorem dX9_passes_26 : decode cX9_passes 26 = .ok (.iadd, 1) := by decide +kernel
theorem dX9_passes_27 : decode cX9_passes 27 = .ok (.iaload, 1) := by decide +kernel
theorem dX9_passes_28 : decode cX9_passes 28 = .ok (.istore 4, 2) := by decide +kernel
theorem dX9_passes_30 : decode cX9_passes 30 = .ok (.iload_n 2, 1) := by decide +kernel
theorem dX9_passes_31 : decode cX9_passes 31 = .ok (.iload 4, 2) := by decide +kernel
theorem dX9_passes_33 : decode cX9_passes 33 = .ok (.iconst 2, 1) := by decide +kernel
theorem dX9_passes_34 : decode cX9_passes 34 = .ok (.if_icmp .eq 17, 3) := by decide +kernel
theorem dX9_passes_37 : decode cX9_passes 37 = .ok (.iload 4, 2) := by decide +kernel
theorem dX9_passes_39 : decode cX9_passes 39 = .ok (.iconst 1, 1) := by decide +kernel
theorem dX9_passes_40 : decode cX9_passes 40 = .ok (.if_icmp .ne 17, 3) := by decide +kernel
theorem dX9_passes_43 : decode cX9_passes 43 = .ok (.aload_n 0, 1) := by decide +kernel
theorem dX9_passes_44 : decode cX9_passes 44 = .ok (.iload_n 3, 1) := by decide +kernel
theorem dX9_passes_45 : decode cX9_passes 45 = .ok (.invokevirtual 128, 3) := by decide +kernel
theorem dX9_passes_48 : decode cX9_passes 48 = .ok (.ifCond .eq 9, 3) := by decide +kernel
theorem dX9_passes_51 : decode cX9_passes 51 = .ok (.iconst 1, 1) := by decide +kernel
theorem dX9_passes_52 : decode cX9_passes 52 = .ok (.iload_n 3, 1) := by decide +kernel
theorem dX9_passes_53 : decode cX9_passes 53 = .ok (.ishl, 1) := by decide +kernel
theorem dX9_passes_54 : decode cX9_passes 54 = .ok (.goto 4, 3) := by decide +kernel
theorem dX9_passes_57 : decode cX9_passes 57 = .ok (.iconst 0, 1) := by decide +kernel
theorem dX9_passes_58 : decode cX9_passes 58 = .ok (.ior, 1) := by decide +kernel
theorem dX9_passes_59 : decode cX9_passes 59 = .ok (.istore_n 2, 1) := by decide +kernel
theorem dX9_passes_60 : decode cX9_passes 60 = .ok (.iinc 3 1, 3) := by decide +kernel
theorem dX9_passes_63 : decode cX9_passes 63 = .ok (.goto (-54), 3) := by decide +kernel
theorem dX9_passes_66 : decode cX9_passes 66 = .ok (.iconst 0, 1) := by decide +kernel
theorem dX9_passes_67 : decode cX9_passes 67 = .ok (.istore_n 3, 1) := by decide +kernel
theorem dX9_passes_68 : decode cX9_passes 68 = .ok (.iload_n 3, 1) := by decide +kernel
theorem dX9_passes_69 : decode cX9_passes 69 = .ok (.aload_n 0, 1) := by decide +kernel
theorem dX9_passes_70 : decode cX9_passes 70 = .ok (.getfield 13, 3) := by decide +kernel
theorem dX9_passes_73 : decode cX9_passes 73 = .ok (.iconst 1, 1) := by decide +kernel
theorem dX9_passes_74 : decode cX9_passes 74 = .ok (.iaload, 1) := by decide +kernel
theorem dX9_passes_75 : decode cX9_passes 75 = .ok (.if_icmp .ge 111, 3) := by decide +kernel
theorem dX9_passes_78 : decode cX9_passes 78 = .ok (.aload_n 0, 1) := by decide +kernel
theorem dX9_passes_79 : decode cX9_passes 79 = .ok (.getfield 22, 3) := by decide +kernel
theorem dX9_passes_82 : decode cX9_passes 82 = .ok (.iconst 3, 1) := by decide +kernel
theorem dX9_passes_83 : decode cX9_passes 83 = .ok (.iload_n 3, 1) := by decide +kernel
theorem dX9_passes_84 : decode cX9_passes 84 = .ok (.iadd, 1) := by decide +kernel
theorem dX9_passes_85 : decode cX9_passes 85 = .ok (.iaload, 1) := by decide +kernel
theorem dX9_passes_86 : decode cX9_passes 86 = .ok (.aload_n 0, 1) := by decide +kernel
theorem dX9_passes_87 : decode cX9_passes 87 = .ok (.getfield 13, 3) := by decide +kernel
theorem dX9_passes_90 : decode cX9_passes 90 = .ok (.bipush 20, 2) := by decide +kernel
theorem dX9_passes_92 : decode cX9_passes 92 = .ok (.iload_n 3, 1) := by decide +kernel
theorem dX9_passes_93 : decode cX9_passes 93 = .ok (.iadd, 1) := by decide +kernel
theorem dX9_passes_94 : decode cX9_passes 94 = .ok (.iaload, 1) := by decide +kernel
theorem dX9_passes_95 : decode cX9_passes 95 = .ok (.iconst 2, 1) := by decide +kernel
theorem dX9_passes_96 : decode cX9_passes 96 = .ok (.if_icmp .ne 7, 3) := by decide +kernel
theorem dX9_passes_99 : decode cX9_passes 99 = .ok (.iconst 1, 1) := by decide +kernel
theorem dX9_passes_100 : decode cX9_passes 100 = .ok (.goto 4, 3) := by decide +kernel
theorem dX9_passes_103 : decode cX9_passes 103 = .ok (.iconst 2, 1) := by decide +kernel
theorem dX9_passes_104 : decode cX9_passes 104 = .ok (.isub, 1) := by decide +kernel
theorem dX9_passes_105 : decode cX9_passes 105 = .ok (.istore 4, 2) := by decide +kernel
theorem dX9_passes_107 : decode cX9_passes 107 = .ok (.aload_n 0, 1) := by decide +kernel
theorem dX9_passes_108 : decode cX9_passes 108 = .ok (.getfield 22, 3) := by decide +kernel
theorem dX9_passes_111 : decode cX9_passes 111 = .ok (.iconst 3, 1) := by decide +kernel
theorem dX9_passes_112 : decode cX9_passes 112 = .ok (.iload_n 3, 1) := by decide +kernel
theorem dX9_passes_113 : decode cX9_passes 113 = .ok (.iadd, 1) := by decide +kernel
theorem dX9_passes_114 : decode cX9_passes 114 = .ok (.iaload, 1) := by decide +kernel
theorem dX9_passes_115 : decode cX9_passes 115 = .ok (.iload_n 2, 1) := by decide +kernel
theorem dX9_passes_116 : decode cX9_passes 116 = .ok (.iload_n 3, 1) := by decide +kernel
theorem dX9_passes_117 : decode cX9_passes 117 = .ok (.invokestatic 94, 3) := by decide +kernel
theorem dX9_passes_120 : decode cX9_passes 120 = .ok (.ifCond .eq 7, 3) := by decide +kernel
theorem dX9_passes_123 : decode cX9_passes 123 = .ok (.iconst 2, 1) := by decide +kernel
theorem dX9_passes_124 : decode cX9_passes 124 = .ok (.goto 4, 3) := by decide +kernel
theorem dX9_passes_127 : decode cX9_passes 127 = .ok (.iconst 1, 1) := by decide +kernel
theorem dX9_passes_128 : decode cX9_passes 128 = .ok (.iadd, 1) := by decide +kernel
theorem dX9_passes_129 : decode cX9_passes 129 = .ok (.istore 5, 2) := by decide +kernel
theorem dX9_passes_131 : decode cX9_passes 131 = .ok (.aload_n 0, 1) := by decide +kernel
theorem dX9_passes_132 : decode cX9_passes 132 = .ok (.getfield 22, 3) := by decide +kernel
theorem dX9_passes_135 : decode cX9_passes 135 = .ok (.iconst 3, 1) := by decide +kernel
theorem dX9_passes_136 : decode cX9_passes 136 = .ok (.iload_n 3, 1) := by decide +kernel
theorem dX9_passes_137 : decode cX9_passes 137 = .ok (.iadd, 1) := by decide +kernel
theorem dX9_passes_138 : decode cX9_passes 138 = .ok (.aload_n 0, 1) := by decide +kernel
theorem dX9_passes_139 : decode cX9_passes 139 = .ok (.getfield 22, 3) := by decide +kernel
theorem dX9_passes_142 : decode cX9_passes 142 = .ok (.iconst 1, 1) := by decide +kernel
theorem dX9_passes_143 : decode cX9_passes 143 = .ok (.iaload, 1) := by decide +kernel
theorem dX9_passes_144 : decode cX9_passes 144 = .ok (.iload_n 3, 1) := by decide +kernel
theorem dX9_passes_145 : decode cX9_passes 145 = .ok (.invokestatic 94, 3) := by decide +kernel
theorem dX9_passes_148 : decode cX9_passes 148 = .ok (.ifCond .eq 20, 3) := by decide +kernel
theorem dX9_passes_151 : decode cX9_passes 151 = .ok (.iload 5, 2) := by decide +kernel
theorem dX9_passes_153 : decode cX9_passes 153 = .ok (.bipush 99, 2) := by decide +kernel
theorem dX9_passes_155 : decode cX9_passes 155 = .ok (.if_icmp .le 8, 3) := by decide +kernel
theorem dX9_passes_158 : decode cX9_passes 158 = .ok (.bipush 99, 2) := by decide +kernel
theorem dX9_passes_160 : decode cX9_passes 160 = .ok (.goto 19, 3) := by decide +kernel
theorem dX9_passes_163 : decode cX9_passes 163 = .ok (.iload 5, 2) := by decide +kernel
theorem dX9_passes_165 : decode cX9_passes 165 = .ok (.goto 14, 3) := by decide +kernel
theorem dX9_passes_168 : decode cX9_passes 168 = .ok (.iload 4, 2) := by decide +kernel
theorem dX9_passes_170 : decode cX9_passes 170 = .ok (.ifCond .ge 7, 3) := by decide +kernel
theorem dX9_passes_173 : decode cX9_passes 173 = .ok (.iconst 0, 1) := by decide +kernel
theorem dX9_passes_174 : decode cX9_passes 174 = .ok (.goto 5, 3) := by decide +kernel
theorem dX9_passes_177 : decode cX9_passes 177 = .ok (.iload 4, 2) := by decide +kernel
theorem dX9_passes_179 : decode cX9_passes 179 = .ok (.iastore, 1) := by decide +kernel
theorem dX9_passes_180 : decode cX9_passes 180 = .ok (.iinc 3 1, 3) := by decide +kernel
theorem dX9_passes_183 : decode cX9_passes 183 = .ok (.goto (-115), 3) := by decide +kernel
theorem dX9_passes_186 : decode cX9_passes 186 = .ok (.iconst 0, 1) := by decide +kernel
theorem dX9_passes_187 : decode cX9_passes 187 = .ok (.istore_n 3, 1) := by decide +kernel
theorem dX9_passes_188 : decode cX9_passes 188 = .ok (.iconst 0, 1) := by decide +kernel
theorem dX9_passes_189 : decode cX9_passes 189 = .ok (.istore 4, 2) := by decide +kernel
theorem dX9_passes_191 : decode cX9_passes 191 = .ok (.iload 4, 2) := by decide +kernel
theorem dX9_passes_193 : decode cX9_passes 193 = .ok (.aload_n 0, 1) := by decide +kernel
theorem dX9_passes_194 : decode cX9_passes 194 = .ok (.getfield 13, 3) := by decide +kernel
theorem dX9_passes_197 : decode cX9_passes 197 = .ok (.iconst 0, 1) := by decide +kernel
theorem dX9_passes_198 : decode cX9_passes 198 = .ok (.iaload, 1) := by decide +kernel
theorem dX9_passes_199 : decode cX9_passes 199 = .ok (.if_icmp .ge 87, 3) := by decide +kernel
theorem dX9_passes_202 : decode cX9_passes 202 = .ok (.aload_n 0, 1) := by decide +kernel
theorem dX9_passes_203 : decode cX9_passes 203 = .ok (.iload 4, 2) := by decide +kernel
theorem dX9_passes_205 : decode cX9_passes 205 = .ok (.invokevirtual 98, 3) := by decide +kernel
theorem dX9_passes_208 : decode cX9_passes 208 = .ok (.ifCond .ne 72, 3) := by decide +kernel
theorem dX9_passes_211 : decode cX9_passes 211 = .ok (.aload_n 0, 1) := by decide +kernel
theorem dX9_passes_212 : decode cX9_passes 212 = .ok (.getfield 22, 3) := by decide +kernel
theorem dX9_passes_215 : decode cX9_passes 215 = .ok (.bipush 15, 2) := by decide +kernel
theorem dX9_passes_217 : decode cX9_passes 217 = .ok (.iload 4, 2) := by decide +kernel
theorem dX9_passes_219 : decode cX9_passes 219 = .ok (.iadd, 1) := by decide +kernel
theorem dX9_passes_220 : decode cX9_passes 220 = .ok (.iload_n 1, 1) := by decide +kernel
theorem dX9_passes_221 : decode cX9_passes 221 = .ok (.iload 4, 2) := by decide +kernel
theorem dX9_passes_223 : decode cX9_passes 223 = .ok (.invokestatic 94, 3) := by decide +kernel
theorem dX9_passes_226 : decode cX9_passes 226 = .ok (.ifCond .eq 7, 3) := by decide +kernel
theorem dX9_passes_229 : decode cX9_passes 229 = .ok (.iconst 0, 1) := by decide +kernel
theorem dX9_passes_230 : decode cX9_passes 230 = .ok (.goto 15, 3) := by decide +kernel
theorem dX9_passes_233 : decode cX9_passes 233 = .ok (.aload_n 0, 1) := by decide +kernel
theorem dX9_passes_234 : decode cX9_passes 234 = .ok (.getfield 22, 3) := by decide +kernel
theorem dX9_passes_237 : decode cX9_passes 237 = .ok (.bipush 15, 2) := by decide +kernel
theorem dX9_passes_239 : decode cX9_passes 239 = .ok (.iload 4, 2) := by decide +kernel
theorem dX9_passes_241 : decode cX9_passes 241 = .ok (.iadd, 1) := by decide +kernel
theorem dX9_passes_242 : decode cX9_passes 242 = .ok (.iaload, 1) := by decide +kernel
theorem dX9_passes_243 : decode cX9_passes 243 = .ok (.iconst 1, 1) := by decide +kernel
theorem dX9_passes_244 : decode cX9_passes 244 = .ok (.iadd, 1) := by decide +kernel
theorem dX9_passes_245 : decode cX9_passes 245 = .ok (.iastore, 1) := by decide +kernel
theorem dX9_passes_246 : decode cX9_passes 246 = .ok (.iload_n 3, 1) := by decide +kernel
theorem dX9_passes_247 : decode cX9_passes 247 = .ok (.aload_n 0, 1) := by decide +kernel
theorem dX9_passes_248 : decode cX9_passes 248 = .ok (.getfield 22, 3) := by decide +kernel
theorem dX9_passes_251 : decode cX9_passes 251 = .ok (.bipush 15, 2) := by decide +kernel
theorem dX9_passes_253 : decode cX9_passes 253 = .ok (.iload 4, 2) := by decide +kernel
theorem dX9_passes_255 : decode cX9_passes 255 = .ok (.iadd, 1) := by decide +kernel
theorem dX9_passes_256 : decode cX9_passes 256 = .ok (.iaload, 1) := by decide +kernel
theorem dX9_passes_257 : decode cX9_passes 257 = .ok (.aload_n 0, 1) := by decide +kernel
theorem dX9_passes_258 : decode cX9_passes 258 = .ok (.getfield 13, 3) := by decide +kernel
theorem dX9_passes_261 : decode cX9_passes 261 = .ok (.bipush 12, 2) := by decide +kernel
theorem dX9_passes_263 : decode cX9_passes 263 = .ok (.iload 4, 2) := by decide +kernel
theorem dX9_passes_265 : decode cX9_passes 265 = .ok (.iadd, 1) := by decide +kernel
theorem dX9_passes_266 : decode cX9_passes 266 = .ok (.iaload, 1) := by decide +kernel
theorem dX9_passes_267 : decode cX9_passes 267 = .ok (.if_icmp .le 10, 3) := by decide +kernel
theorem dX9_passes_270 : decode cX9_passes 270 = .ok (.iconst 1, 1) := by decide +kernel
theorem dX9_passes_271 : decode cX9_passes 271 = .ok (.iload 4, 2) := by decide +kernel
theorem dX9_passes_273 : decode cX9_passes 273 = .ok (.ishl, 1) := by decide +kernel
theorem dX9_passes_274 : decode cX9_passes 274 = .ok (.goto 4, 3) := by decide +kernel
theorem dX9_passes_277 : decode cX9_passes 277 = .ok (.iconst 0, 1) := by decide +kernel
theorem dX9_passes_278 : decode cX9_passes 278 = .ok (.ior, 1) := by decide +kernel
theorem dX9_passes_279 : decode cX9_passes 279 = .ok (.istore_n 3, 1) := by decide +kernel
theorem dX9_passes_280 : decode cX9_passes 280 = .ok (.iinc 4 1, 3) := by decide +kernel
theorem dX9_passes_283 : decode cX9_passes 283 = .ok (.goto (-92), 3) := by decide +kernel
theorem dX9_passes_286 : decode cX9_passes 286 = .ok (.aload_n 0, 1) := by decide +kernel
theorem dX9_passes_287 : decode cX9_passes 287 = .ok (.getfield 22, 3) := by decide +kernel
theorem dX9_passes_290 : decode cX9_passes 290 = .ok (.iconst 2, 1) := by decide +kernel
theorem dX9_passes_291 : decode cX9_passes 291 = .ok (.dup2, 1) := by decide +kernel
theorem dX9_passes_292 : decode cX9_passes 292 = .ok (.iaload, 1) := by decide +kernel
theorem dX9_passes_293 : decode cX9_passes 293 = .ok (.iload_n 3, 1) := by decide +kernel
theorem dX9_passes_294 : decode cX9_passes 294 = .ok (.ior, 1) := by decide +kernel
theorem dX9_passes_295 : decode cX9_passes 295 = .ok (.iastore, 1) := by decide +kernel
theorem dX9_passes_296 : decode cX9_passes 296 = .ok (.iconst 0, 1) := by decide +kernel
theorem dX9_passes_297 : decode cX9_passes 297 = .ok (.istore 4, 2) := by decide +kernel
theorem dX9_passes_299 : decode cX9_passes 299 = .ok (.iload 4, 2) := by decide +kernel
theorem dX9_passes_301 : decode cX9_passes 301 = .ok (.aload_n 0, 1) := by decide +kernel
theorem dX9_passes_302 : decode cX9_passes 302 = .ok (.getfield 13, 3) := by decide +kernel
theorem dX9_passes_305 : decode cX9_passes 305 = .ok (.iconst 1, 1) := by decide +kernel
theorem dX9_passes_306 : decode cX9_passes 306 = .ok (.iaload, 1) := by decide +kernel
theorem dX9_passes_307 : decode cX9_passes 307 = .ok (.if_icmp .ge 106, 3) := by decide +kernel
theorem dX9_passes_310 : decode cX9_passes 310 = .ok (.aload_n 0, 1) := by decide +kernel
theorem dX9_passes_311 : decode cX9_passes 311 = .ok (.getfield 22, 3) := by decide +kernel
theorem dX9_passes_314 : decode cX9_passes 314 = .ok (.iconst 3, 1) := by decide +kernel
theorem dX9_passes_315 : decode cX9_passes 315 = .ok (.iload 4, 2) := by decide +kernel
theorem dX9_passes_317 : decode cX9_passes 317 = .ok (.iadd, 1) := by decide +kernel
theorem dX9_passes_318 : decode cX9_passes 318 = .ok (.iaload, 1) := by decide +kernel
theorem dX9_passes_319 : decode cX9_passes 319 = .ok (.aload_n 0, 1) := by decide +kernel
theorem dX9_passes_320 : decode cX9_passes 320 = .ok (.getfield 13, 3) := by decide +kernel
theorem dX9_passes_323 : decode cX9_passes 323 = .ok (.bipush 32, 2) := by decide +kernel
theorem dX9_passes_325 : decode cX9_passes 325 = .ok (.iload 4, 2) := by decide +kernel
theorem dX9_passes_327 : decode cX9_passes 327 = .ok (.iadd, 1) := by decide +kernel
theorem dX9_passes_328 : decode cX9_passes 328 = .ok (.iaload, 1) := by decide +kernel
theorem dX9_passes_329 : decode cX9_passes 329 = .ok (.if_icmp .le 34, 3) := by decide +kernel
theorem dX9_passes_332 : decode cX9_passes 332 = .ok (.aload_n 0, 1) := by decide +kernel
theorem dX9_passes_333 : decode cX9_passes 333 = .ok (.getfield 13, 3) := by decide +kernel
theorem dX9_passes_336 : decode cX9_passes 336 = .ok (.bipush 20, 2) := by decide +kernel
theorem dX9_passes_338 : decode cX9_passes 338 = .ok (.iload 4, 2) := by decide +kernel
theorem dX9_passes_340 : decode cX9_passes 340 = .ok (.iadd, 1) := by decide +kernel
theorem dX9_passes_341 : decode cX9_passes 341 = .ok (.iaload, 1) := by decide +kernel
theorem dX9_passes_342 : decode cX9_passes 342 = .ok (.iconst 3, 1) := by decide +kernel
theorem dX9_passes_343 : decode cX9_passes 343 = .ok (.if_icmp .ne 16, 3) := by decide +kernel
theorem dX9_passes_346 : decode cX9_passes 346 = .ok (.aload_n 0, 1) := by decide +kernel
theorem dX9_passes_347 : decode cX9_passes 347 = .ok (.aload_n 0, 1) := by decide +kernel
theorem dX9_passes_348 : decode cX9_passes 348 = .ok (.getfield 22, 3) := by decide +kernel
theorem dX9_passes_351 : decode cX9_passes 351 = .ok (.iconst 0, 1) := by decide +kernel
theorem dX9_passes_352 : decode cX9_passes 352 = .ok (.iaload, 1) := by decide +kernel
theorem dX9_passes_353 : decode cX9_passes 353 = .ok (.invokevirtual 122, 3) := by decide +kernel
theorem dX9_passes_356 : decode cX9_passes 356 = .ok (.ifCond .ne 7, 3) := by decide +kernel
theorem dX9_passes_359 : decode cX9_passes 359 = .ok (.iconst 1, 1) := by decide +kernel
theorem dX9_passes_360 : decode cX9_passes 360 = .ok (.goto 4, 3) := by decide +kernel
theorem dX9_passes_363 : decode cX9_passes 363 = .ok (.iconst 0, 1) := by decide +kernel
theorem dX9_passes_364 : decode cX9_passes 364 = .ok (.istore 5, 2) := by decide +kernel
theorem dX9_passes_366 : decode cX9_passes 366 = .ok (.aload_n 0, 1) := by decide +kernel
theorem dX9_passes_367 : decode cX9_passes 367 = .ok (.getfield 22, 3) := by decide +kernel
theorem dX9_passes_370 : decode cX9_passes 370 = .ok (.iconst 1, 1) := by decide +kernel
theorem dX9_passes_371 : decode cX9_passes 371 = .ok (.dup2, 1) := by decide +kernel
theorem dX9_passes_372 : decode cX9_passes 372 = .ok (.iaload, 1) := by decide +kernel
theorem dX9_passes_373 : decode cX9_passes 373 = .ok (.iload 5, 2) := by decide +kernel
theorem dX9_passes_375 : decode cX9_passes 375 = .ok (.ifCond .ne 20, 3) := by decide +kernel
theorem dX9_passes_378 : decode cX9_passes 378 = .ok (.aload_n 0, 1) := by decide +kernel
theorem dX9_passes_379 : decode cX9_passes 379 = .ok (.aload_n 0, 1) := by decide +kernel
theorem dX9_passes_380 : decode cX9_passes 380 = .ok (.getfield 22, 3) := by decide +kernel
theorem dX9_passes_383 : decode cX9_passes 383 = .ok (.bipush 9, 2) := by decide +kernel
theorem dX9_passes_385 : decode cX9_passes 385 = .ok (.iload 4, 2) := by decide +kernel
theorem dX9_passes_387 : decode cX9_passes 387 = .ok (.iadd, 1) := by decide +kernel
theorem dX9_passes_388 : decode cX9_passes 388 = .ok (.iaload, 1) := by decide +kernel
theorem dX9_passes_389 : decode cX9_passes 389 = .ok (.invokevirtual 98, 3) := by decide +kernel
theorem dX9_passes_392 : decode cX9_passes 392 = .ok (.ifCond .eq 12, 3) := by decide +kernel
theorem dX9_passes_395 : decode cX9_passes 395 = .ok (.iconst 1, 1) := by decide +kernel
theorem dX9_passes_396 : decode cX9_passes 396 = .ok (.iload 4, 2) := by decide +kernel
theorem dX9_passes_398 : decode cX9_passes 398 = .ok (.ishl, 1) := by decide +kernel
theorem dX9_passes_399 : decode cX9_passes 399 = .ok (.iconst (-1), 1) := by decide +kernel
theorem dX9_passes_400 : decode cX9_passes 400 = .ok (.ixor, 1) := by decide +kernel
theorem dX9_passes_401 : decode cX9_passes 401 = .ok (.goto 4, 3) := by decide +kernel
theorem dX9_passes_404 : decode cX9_passes 404 = .ok (.iconst (-1), 1) := by decide +kernel
theorem dX9_passes_405 : decode cX9_passes 405 = .ok (.iand, 1) := by decide +kernel
theorem dX9_passes_406 : decode cX9_passes 406 = .ok (.iastore, 1) := by decide +kernel
theorem dX9_passes_407 : decode cX9_passes 407 = .ok (.iinc 4 1, 3) := by decide +kernel
theorem dX9_passes_410 : decode cX9_passes 410 = .ok (.goto (-111), 3) := by decide +kernel
theorem dX9_passes_413 : decode cX9_passes 413 = .ok (.aload_n 0, 1) := by decide +kernel
theorem dX9_passes_414 : decode cX9_passes 414 = .ok (.getfield 22, 3) := by decide +kernel
theorem dX9_passes_417 : decode cX9_passes 417 = .ok (.iconst 0, 1) := by decide +kernel
theorem dX9_passes_418 : decode cX9_passes 418 = .ok (.dup2, 1) := by decide +kernel
theorem dX9_passes_419 : decode cX9_passes 419 = .ok (.iaload, 1) := by decide +kernel
theorem dX9_passes_420 : decode cX9_passes 420 = .ok (.iconst 1, 1) := by decide +kernel
theorem dX9_passes_421 : decode cX9_passes 421 = .ok (.iadd, 1) := by decide +kernel
theorem dX9_passes_422 : decode cX9_passes 422 = .ok (.iastore, 1) := by decide +kernel
theorem dX9_passes_423 : decode cX9_passes 423 = .ok (.return_, 1) := by decide +kernel
theorem dX9_pass_0 : decode cX9_pass 0 = .ok (.iload_n 1, 1) := by decide +kernel
theorem dX9_pass_1 : decode cX9_pass 1 = .ok (.iconst 1, 1) := by decide +kernel
theorem dX9_pass_2 : decode cX9_pass 2 = .ok (.bipush 24, 2) := by decide +kernel
theorem dX9_pass_4 : decode cX9_pass 4 = .ok (.invokestatic 52, 3) := by decide +kernel
theorem dX9_pass_7 : decode cX9_pass 7 = .ok (.ifCond .ne 5, 3) := by decide +kernel
theorem dX9_pass_10 : decode cX9_pass 10 = .ok (.iconst (-1), 1) := by decide +kernel
theorem dX9_pass_11 : decode cX9_pass 11 = .ok (.ireturn, 1) := by decide +kernel
theorem dX9_pass_12 : decode cX9_pass 12 = .ok (.aload_n 0, 1) := by decide +kernel
theorem dX9_pass_13 : decode cX9_pass 13 = .ok (.invokevirtual 131, 3) := by decide +kernel
theorem dX9_pass_16 : decode cX9_pass 16 = .ok (.iconst 0, 1) := by decide +kernel
theorem dX9_pass_17 : decode cX9_pass 17 = .ok (.istore_n 2, 1) := by decide +kernel
theorem dX9_pass_18 : decode cX9_pass 18 = .ok (.iload_n 2, 1) := by decide +kernel
theorem dX9_pass_19 : decode cX9_pass 19 = .ok (.iload_n 1, 1) := by decide +kernel
theorem dX9_pass_20 : decode cX9_pass 20 = .ok (.if_icmp .ge 13, 3) := by decide +kernel
theorem dX9_pass_23 : decode cX9_pass 23 = .ok (.aload_n 0, 1) := by decide +kernel
theorem dX9_pass_24 : decode cX9_pass 24 = .ok (.invokevirtual 134, 3) := by decide +kernel
theorem dX9_pass_27 : decode cX9_pass 27 = .ok (.iinc 2 1, 3) := by decide +kernel
theorem dX9_pass_30 : decode cX9_pass 30 = .ok (.goto (-12), 3) := by decide +kernel
theorem dX9_pass_33 : decode cX9_pass 33 = .ok (.aload_n 0, 1) := by decide +kernel
theorem dX9_pass_34 : decode cX9_pass 34 = .ok (.getfield 22, 3) := by decide +kernel
theorem dX9_pass_37 : decode cX9_pass 37 = .ok (.iconst 0, 1) := by decide +kernel
theorem dX9_pass_38 : decode cX9_pass 38 = .ok (.iaload, 1) := by decide +kernel
theorem dX9_pass_39 : decode cX9_pass 39 = .ok (.ireturn, 1) := by decide +kernel
theorem dX9_isBarred_0 : decode cX9_isBarred 0 = .ok (.aload_n 0, 1) := by decide +kernel
theorem dX9_isBarred_1 : decode cX9_isBarred 1 = .ok (.getfield 13, 3) := by decide +kernel
theorem dX9_isBarred_4 : decode cX9_isBarred 4 = .ok (.bipush 20, 2) := by decide +kernel
theorem dX9_isBarred_6 : decode cX9_isBarred 6 = .ok (.iload_n 1, 1) := by decide +kernel
theorem dX9_isBarred_7 : decode cX9_isBarred 7 = .ok (.iadd, 1) := by decide +kernel
theorem dX9_isBarred_8 : decode cX9_isBarred 8 = .ok (.iaload, 1) := by decide +kernel
theorem dX9_isBarred_9 : decode cX9_isBarred 9 = .ok (.iconst 3, 1) := by decide +kernel
theorem dX9_isBarred_10 : decode cX9_isBarred 10 = .ok (.if_icmp .ne 20, 3) := by decide +kernel
theorem dX9_isBarred_13 : decode cX9_isBarred 13 = .ok (.aload_n 0, 1) := by decide +kernel
theorem dX9_isBarred_14 : decode cX9_isBarred 14 = .ok (.aload_n 0, 1) := by decide +kernel
theorem dX9_isBarred_15 : decode cX9_isBarred 15 = .ok (.getfield 22, 3) := by decide +kernel
theorem dX9_isBarred_18 : decode cX9_isBarred 18 = .ok (.iconst 0, 1) := by decide +kernel
theorem dX9_isBarred_19 : decode cX9_isBarred 19 = .ok (.iaload, 1) := by decide +kernel
theorem dX9_isBarred_20 : decode cX9_isBarred 20 = .ok (.invokevirtual 122, 3) := by decide +kernel
theorem dX9_isBarred_23 : decode cX9_isBarred 23 = .ok (.ifCond .eq 7, 3) := by decide +kernel
theorem dX9_isBarred_26 : decode cX9_isBarred 26 = .ok (.iconst 1, 1) := by decide +kernel
theorem dX9_isBarred_27 : decode cX9_isBarred 27 = .ok (.goto 4, 3) := by decide +kernel
theorem dX9_isBarred_30 : decode cX9_isBarred 30 = .ok (.iconst 0, 1) := by decide +kernel
theorem dX9_isBarred_31 : decode cX9_isBarred 31 = .ok (.ireturn, 1) := by decide +kernel
theorem dX9_mayDown_0 : decode cX9_mayDown 0 = .ok (.aload_n 0, 1) := by decide +kernel
theorem dX9_mayDown_1 : decode cX9_mayDown 1 = .ok (.getfield 22, 3) := by decide +kernel
theorem dX9_mayDown_4 : decode cX9_mayDown 4 = .ok (.iconst 1, 1) := by decide +kernel
theorem dX9_mayDown_5 : decode cX9_mayDown 5 = .ok (.iaload, 1) := by decide +kernel
theorem dX9_mayDown_6 : decode cX9_mayDown 6 = .ok (.iload_n 1, 1) := by decide +kernel
theorem dX9_mayDown_7 : decode cX9_mayDown 7 = .ok (.invokestatic 94, 3) := by decide +kernel
theorem dX9_mayDown_10 : decode cX9_mayDown 10 = .ok (.ifCond .eq 15, 3) := by decide +kernel
theorem dX9_mayDown_13 : decode cX9_mayDown 13 = .ok (.aload_n 0, 1) := by decide +kernel
theorem dX9_mayDown_14 : decode cX9_mayDown 14 = .ok (.iload_n 1, 1) := by decide +kernel
theorem dX9_mayDown_15 : decode cX9_mayDown 15 = .ok (.invokevirtual 137, 3) := by decide +kernel
theorem dX9_mayDown_18 : decode cX9_mayDown 18 = .ok (.ifCond .ne 7, 3) := by decide +kernel
theorem dX9_mayDown_21 : decode cX9_mayDown 21 = .ok (.iconst 1, 1) := by decide +kernel
theorem dX9_mayDown_22 : decode cX9_mayDown 22 = .ok (.goto 4, 3) := by decide +kernel
theorem dX9_mayDown_25 : decode cX9_mayDown 25 = .ok (.iconst 0, 1) := by decide +kernel
theorem dX9_mayDown_26 : decode cX9_mayDown 26 = .ok (.ireturn, 1) := by decide +kernel
theorem dX9_mayUp_0 : decode cX9_mayUp 0 = .ok (.aload_n 0, 1) := by decide +kernel
theorem dX9_mayUp_1 : decode cX9_mayUp 1 = .ok (.getfield 22, 3) := by decide +kernel
theorem dX9_mayUp_4 : decode cX9_mayUp 4 = .ok (.iconst 1, 1) := by decide +kernel
theorem dX9_mayUp_5 : decode cX9_mayUp 5 = .ok (.iaload, 1) := by decide +kernel
theorem dX9_mayUp_6 : decode cX9_mayUp 6 = .ok (.iload_n 1, 1) := by decide +kernel
theorem dX9_mayUp_7 : decode cX9_mayUp 7 = .ok (.invokestatic 94, 3) := by decide +kernel
theorem dX9_mayUp_10 : decode cX9_mayUp 10 = .ok (.ifCond .ne 51, 3) := by decide +kernel
theorem dX9_mayUp_13 : decode cX9_mayUp 13 = .ok (.aload_n 0, 1) := by decide +kernel
theorem dX9_mayUp_14 : decode cX9_mayUp 14 = .ok (.iload_n 1, 1) := by decide +kernel
theorem dX9_mayUp_15 : decode cX9_mayUp 15 = .ok (.invokevirtual 137, 3) := by decide +kernel
theorem dX9_mayUp_18 : decode cX9_mayUp 18 = .ok (.ifCond .ne 43, 3) := by decide +kernel
theorem dX9_mayUp_21 : decode cX9_mayUp 21 = .ok (.aload_n 0, 1) := by decide +kernel
theorem dX9_mayUp_22 : decode cX9_mayUp 22 = .ok (.getfield 22, 3) := by decide +kernel
theorem dX9_mayUp_25 : decode cX9_mayUp 25 = .ok (.iconst 3, 1) := by decide +kernel
theorem dX9_mayUp_26 : decode cX9_mayUp 26 = .ok (.iload_n 1, 1) := by decide +kernel
theorem dX9_mayUp_27 : decode cX9_mayUp 27 = .ok (.iadd, 1) := by decide +kernel
theorem dX9_mayUp_28 : decode cX9_mayUp 28 = .ok (.iaload, 1) := by decide +kernel
theorem dX9_mayUp_29 : decode cX9_mayUp 29 = .ok (.aload_n 0, 1) := by decide +kernel
theorem dX9_mayUp_30 : decode cX9_mayUp 30 = .ok (.getfield 13, 3) := by decide +kernel
theorem dX9_mayUp_33 : decode cX9_mayUp 33 = .ok (.bipush 32, 2) := by decide +kernel
theorem dX9_mayUp_35 : decode cX9_mayUp 35 = .ok (.iload_n 1, 1) := by decide +kernel
