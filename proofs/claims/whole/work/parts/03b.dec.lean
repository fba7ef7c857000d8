theorem dX8_init_0 : decode cX8_init 0 = .ok (.aload_n 0, 1) := by decide +kernel
theorem dX8_init_1 : decode cX8_init 1 = .ok (.invokespecial 1, 3) := by decide +kernel
theorem dX8_init_4 : decode cX8_init 4 = .ok (.aload_n 0, 1) := by decide +kernel
theorem dX8_init_5 : decode cX8_init 5 = .ok (.new 7, 3) := by decide +kernel
theorem dX8_init_8 : decode cX8_init 8 = .ok (.dup, 1) := by decide +kernel
theorem dX8_init_9 : decode cX8_init 9 = .ok (.invokespecial 9, 3) := by decide +kernel
theorem dX8_init_12 : decode cX8_init 12 = .ok (.putfield 10, 3) := by decide +kernel
theorem dX8_init_15 : decode cX8_init 15 = .ok (.aload_n 0, 1) := by decide +kernel
theorem dX8_init_16 : decode cX8_init 16 = .ok (.new 16, 3) := by decide +kernel
theorem dX8_init_19 : decode cX8_init 19 = .ok (.dup, 1) := by decide +kernel
theorem dX8_init_20 : decode cX8_init 20 = .ok (.invokespecial 18, 3) := by decide +kernel
theorem dX8_init_23 : decode cX8_init 23 = .ok (.putfield 19, 3) := by decide +kernel
theorem dX8_init_26 : decode cX8_init 26 = .ok (.aload_n 0, 1) := by decide +kernel
theorem dX8_init_27 : decode cX8_init 27 = .ok (.new 23, 3) := by decide +kernel
theorem dX8_init_30 : decode cX8_init 30 = .ok (.dup, 1) := by decide +kernel
theorem dX8_init_31 : decode cX8_init 31 = .ok (.invokespecial 25, 3) := by decide +kernel
theorem dX8_init_34 : decode cX8_init 34 = .ok (.putfield 26, 3) := by decide +kernel
theorem dX8_init_37 : decode cX8_init 37 = .ok (.aload_n 0, 1) := by decide +kernel
theorem dX8_init_38 : decode cX8_init 38 = .ok (.new 30, 3) := by decide +kernel
theorem dX8_init_41 : decode cX8_init 41 = .ok (.dup, 1) := by decide +kernel
theorem dX8_init_42 : decode cX8_init 42 = .ok (.invokespecial 32, 3) := by decide +kernel
theorem dX8_init_45 : decode cX8_init 45 = .ok (.putfield 33, 3) := by decide +kernel
theorem dX8_init_48 : decode cX8_init 48 = .ok (.aload_n 0, 1) := by decide +kernel
theorem dX8_init_49 : decode cX8_init 49 = .ok (.new 37, 3) := by decide +kernel
theorem dX8_init_52 : decode cX8_init 52 = .ok (.dup, 1) := by decide +kernel
theorem dX8_init_53 : decode cX8_init 53 = .ok (.invokespecial 39, 3) := by decide +kernel
theorem dX8_init_56 : decode cX8_init 56 = .ok (.putfield 40, 3) := by decide +kernel
theorem dX8_init_59 : decode cX8_init 59 = .ok (.aload_n 0, 1) := by decide +kernel
theorem dX8_init_60 : decode cX8_init 60 = .ok (.new 44, 3) := by decide +kernel
theorem dX8_init_63 : decode cX8_init 63 = .ok (.dup, 1) := by decide +kernel
theorem dX8_init_64 : decode cX8_init 64 = .ok (.invokespecial 46, 3) := by decide +kernel
theorem dX8_init_67 : decode cX8_init 67 = .ok (.putfield 47, 3) := by decide +kernel
theorem dX8_init_70 : decode cX8_init 70 = .ok (.aload_n 0, 1) := by decide +kernel
theorem dX8_init_71 : decode cX8_init 71 = .ok (.new 51, 3) := by decide +kernel
theorem dX8_init_74 : decode cX8_init 74 = .ok (.dup, 1) := by decide +kernel
theorem dX8_init_75 : decode cX8_init 75 = .ok (.invokespecial 53, 3) := by decide +kernel
theorem dX8_init_78 : decode cX8_init 78 = .ok (.putfield 54, 3) := by decide +kernel
theorem dX8_init_81 : decode cX8_init 81 = .ok (.aload_n 0, 1) := by decide +kernel
theorem dX8_init_82 : decode cX8_init 82 = .ok (.iconst 2, 1) := by decide +kernel
theorem dX8_init_83 : decode cX8_init 83 = .ok (.anewarray 44, 3) := by decide +kernel
theorem dX8_init_86 : decode cX8_init 86 = .ok (.putfield 58, 3) := by decide +kernel
theorem dX8_init_89 : decode cX8_init 89 = .ok (.aload_n 0, 1) := by decide +kernel
theorem dX8_init_90 : decode cX8_init 90 = .ok (.new 62, 3) := by decide +kernel
theorem dX8_init_93 : decode cX8_init 93 = .ok (.dup, 1) := by decide +kernel
theorem dX8_init_94 : decode cX8_init 94 = .ok (.invokespecial 64, 3) := by decide +kernel
theorem dX8_init_97 : decode cX8_init 97 = .ok (.putfield 65, 3) := by decide +kernel
theorem dX8_init_100 : decode cX8_init 100 = .ok (.aload_n 0, 1) := by decide +kernel
theorem dX8_init_101 : decode cX8_init 101 = .ok (.new 62, 3) := by decide +kernel
theorem dX8_init_104 : decode cX8_init 104 = .ok (.dup, 1) := by decide +kernel
theorem dX8_init_105 : decode cX8_init 105 = .ok (.invokespecial 64, 3) := by decide +kernel
theorem dX8_init_108 : decode cX8_init 108 = .ok (.putfield 69, 3) := by decide +kernel
theorem dX8_init_111 : decode cX8_init 111 = .ok (.iconst 0, 1) := by decide +kernel
theorem dX8_init_112 : decode cX8_init 112 = .ok (.istore_n 1, 1) := by decide +kernel
theorem dX8_init_113 : decode cX8_init 113 = .ok (.iload_n 1, 1) := by decide +kernel
theorem dX8_init_114 : decode cX8_init 114 = .ok (.iconst 2, 1) := by decide +kernel
theorem dX8_init_115 : decode cX8_init 115 = .ok (.if_icmp .ge 22, 3) := by decide +kernel
theorem dX8_init_118 : decode cX8_init 118 = .ok (.aload_n 0, 1) := by decide +kernel
theorem dX8_init_119 : decode cX8_init 119 = .ok (.getfield 58, 3) := by decide +kernel
theorem dX8_init_122 : decode cX8_init 122 = .ok (.iload_n 1, 1) := by decide +kernel
theorem dX8_init_123 : decode cX8_init 123 = .ok (.new 44, 3) := by decide +kernel
theorem dX8_init_126 : decode cX8_init 126 = .ok (.dup, 1) := by decide +kernel
theorem dX8_init_127 : decode cX8_init 127 = .ok (.invokespecial 46, 3) := by decide +kernel
theorem dX8_init_130 : decode cX8_init 130 = .ok (.aastore, 1) := by decide +kernel
theorem dX8_init_131 : decode cX8_init 131 = .ok (.iinc 1 1, 3) := by decide +kernel
theorem dX8_init_134 : decode cX8_init 134 = .ok (.goto (-21), 3) := by decide +kernel
theorem dX8_init_137 : decode cX8_init 137 = .ok (.iconst 0, 1) := by decide +kernel
theorem dX8_init_138 : decode cX8_init 138 = .ok (.istore_n 1, 1) := by decide +kernel
theorem dX8_init_139 : decode cX8_init 139 = .ok (.iload_n 1, 1) := by decide +kernel
theorem dX8_init_140 : decode cX8_init 140 = .ok (.ldc 72, 2) := by decide +kernel
theorem dX8_init_142 : decode cX8_init 142 = .ok (.invokevirtual 74, 3) := by decide +kernel
theorem dX8_init_145 : decode cX8_init 145 = .ok (.if_icmp .ge 23, 3) := by decide +kernel
theorem dX8_init_148 : decode cX8_init 148 = .ok (.aload_n 0, 1) := by decide +kernel
theorem dX8_init_149 : decode cX8_init 149 = .ok (.getfield 10, 3) := by decide +kernel
theorem dX8_init_152 : decode cX8_init 152 = .ok (.ldc 72, 2) := by decide +kernel
theorem dX8_init_154 : decode cX8_init 154 = .ok (.iload_n 1, 1) := by decide +kernel
theorem dX8_init_155 : decode cX8_init 155 = .ok (.invokevirtual 80, 3) := by decide +kernel
theorem dX8_init_158 : decode cX8_init 158 = .ok (.invokevirtual 84, 3) := by decide +kernel
theorem dX8_init_161 : decode cX8_init 161 = .ok (.pop, 1) := by decide +kernel
theorem dX8_init_162 : decode cX8_init 162 = .ok (.iinc 1 1, 3) := by decide +kernel
theorem dX8_init_165 : decode cX8_init 165 = .ok (.goto (-26), 3) := by decide +kernel
theorem dX8_init_168 : decode cX8_init 168 = .ok (.aload_n 0, 1) := by decide +kernel
theorem dX8_init_169 : decode cX8_init 169 = .ok (.invokevirtual 88, 3) := by decide +kernel
theorem dX8_init_172 : decode cX8_init 172 = .ok (.pop, 1) := by decide +kernel
theorem dX8_init_173 : decode cX8_init 173 = .ok (.aload_n 0, 1) := by decide +kernel
theorem dX8_init_174 : decode cX8_init 174 = .ok (.getfield 10, 3) := by decide +kernel
theorem dX8_init_177 : decode cX8_init 177 = .ok (.iconst 0, 1) := by decide +kernel
theorem dX8_init_178 : decode cX8_init 178 = .ok (.putfield 91, 3) := by decide +kernel
theorem dX8_init_181 : decode cX8_init 181 = .ok (.return_, 1) := by decide +kernel
theorem dX8_write_0 : decode cX8_write 0 = .ok (.iload_n 1, 1) := by decide +kernel
theorem dX8_write_1 : decode cX8_write 1 = .ok (.bipush 32, 2) := by decide +kernel
theorem dX8_write_3 : decode cX8_write 3 = .ok (.if_icmp .lt 9, 3) := by decide +kernel
theorem dX8_write_6 : decode cX8_write 6 = .ok (.iload_n 1, 1) := by decide +kernel
theorem dX8_write_7 : decode cX8_write 7 = .ok (.bipush 126, 2) := by decide +kernel
theorem dX8_write_9 : decode cX8_write 9 = .ok (.if_icmp .le 5, 3) := by decide +kernel
theorem dX8_write_12 : decode cX8_write 12 = .ok (.iconst (-1), 1) := by decide +kernel
theorem dX8_write_13 : decode cX8_write 13 = .ok (.ireturn, 1) := by decide +kernel
theorem dX8_write_14 : decode cX8_write 14 = .ok (.aload_n 0, 1) := by decide +kernel
theorem dX8_write_15 : decode cX8_write 15 = .ok (.getfield 10, 3) := by decide +kernel
theorem dX8_write_18 : decode cX8_write 18 = .ok (.iload_n 1, 1) := by decide +kernel
theorem dX8_write_19 : decode cX8_write 19 = .ok (.i2c, 1) := by decide +kernel
theorem dX8_write_20 : decode cX8_write 20 = .ok (.invokevirtual 84, 3) := by decide +kernel
theorem dX8_write_23 : decode cX8_write 23 = .ok (.ifCond .eq 13, 3) := by decide +kernel
theorem dX8_write_26 : decode cX8_write 26 = .ok (.aload_n 0, 1) := by decide +kernel
theorem dX8_write_27 : decode cX8_write 27 = .ok (.getfield 10, 3) := by decide +kernel
theorem dX8_write_30 : decode cX8_write 30 = .ok (.getfield 91, 3) := by decide +kernel
theorem dX8_write_33 : decode cX8_write 33 = .ok (.goto 5, 3) := by decide +kernel
theorem dX8_write_36 : decode cX8_write 36 = .ok (.bipush (-3), 2) := by decide +kernel
theorem dX8_write_38 : decode cX8_write 38 = .ok (.ireturn, 1) := by decide +kernel
theorem dX8_wipe_0 : decode cX8_wipe 0 = .ok (.aload_n 0, 1) := by decide +kernel
theorem dX8_wipe_1 : decode cX8_wipe 1 = .ok (.getfield 10, 3) := by decide +kernel
theorem dX8_wipe_4 : decode cX8_wipe 4 = .ok (.getfield 91, 3) := by decide +kernel
theorem dX8_wipe_7 : decode cX8_wipe 7 = .ok (.istore_n 1, 1) := by decide +kernel
theorem dX8_wipe_8 : decode cX8_wipe 8 = .ok (.aload_n 0, 1) := by decide +kernel
theorem dX8_wipe_9 : decode cX8_wipe 9 = .ok (.getfield 10, 3) := by decide +kernel
theorem dX8_wipe_12 : decode cX8_wipe 12 = .ok (.iconst 0, 1) := by decide +kernel
theorem dX8_wipe_13 : decode cX8_wipe 13 = .ok (.putfield 91, 3) := by decide +kernel
theorem dX8_wipe_16 : decode cX8_wipe 16 = .ok (.iload_n 1, 1) := by decide +kernel
theorem dX8_wipe_17 : decode cX8_wipe 17 = .ok (.ireturn, 1) := by decide +kernel
theorem dX8_fault_0 : decode cX8_fault 0 = .ok (.aload_n 0, 1) := by decide +kernel
theorem dX8_fault_1 : decode cX8_fault 1 = .ok (.getfield 19, 3) := by decide +kernel
theorem dX8_fault_4 : decode cX8_fault 4 = .ok (.aload_n 0, 1) := by decide +kernel
theorem dX8_fault_5 : decode cX8_fault 5 = .ok (.getfield 10, 3) := by decide +kernel
theorem dX8_fault_8 : decode cX8_fault 8 = .ok (.aload_n 0, 1) := by decide +kernel
theorem dX8_fault_9 : decode cX8_fault 9 = .ok (.getfield 69, 3) := by decide +kernel
theorem dX8_fault_12 : decode cX8_fault 12 = .ok (.invokevirtual 94, 3) := by decide +kernel
theorem dX8_fault_15 : decode cX8_fault 15 = .ok (.ireturn, 1) := by decide +kernel
theorem dX8_lay_0 : decode cX8_lay 0 = .ok (.aload_n 0, 1) := by decide +kernel
theorem dX8_lay_1 : decode cX8_lay 1 = .ok (.invokevirtual 88, 3) := by decide +kernel
theorem dX8_lay_4 : decode cX8_lay 4 = .ok (.ireturn, 1) := by decide +kernel
theorem dX8_bay_0 : decode cX8_bay 0 = .ok (.aload_n 0, 1) := by decide +kernel
theorem dX8_bay_1 : decode cX8_bay 1 = .ok (.getfield 65, 3) := by decide +kernel
theorem dX8_bay_4 : decode cX8_bay 4 = .ok (.iload_n 1, 1) := by decide +kernel
theorem dX8_bay_5 : decode cX8_bay 5 = .ok (.invokevirtual 98, 3) := by decide +kernel
theorem dX8_bay_8 : decode cX8_bay 8 = .ok (.ifCond .eq 13, 3) := by decide +kernel
theorem dX8_bay_11 : decode cX8_bay 11 = .ok (.iload_n 2, 1) := by decide +kernel
theorem dX8_bay_12 : decode cX8_bay 12 = .ok (.ifCond .lt 9, 3) := by decide +kernel
theorem dX8_bay_15 : decode cX8_bay 15 = .ok (.iload_n 2, 1) := by decide +kernel
theorem dX8_bay_16 : decode cX8_bay 16 = .ok (.bipush 6, 2) := by decide +kernel
theorem dX8_bay_18 : decode cX8_bay 18 = .ok (.if_icmp .le 5, 3) := by decide +kernel
theorem dX8_bay_21 : decode cX8_bay 21 = .ok (.iconst (-1), 1) := by decide +kernel
theorem dX8_bay_22 : decode cX8_bay 22 = .ok (.ireturn, 1) := by decide +kernel
theorem dX8_bay_23 : decode cX8_bay 23 = .ok (.aload_n 0, 1) := by decide +kernel
theorem dX8_bay_24 : decode cX8_bay 24 = .ok (.getfield 47, 3) := by decide +kernel
theorem dX8_bay_27 : decode cX8_bay 27 = .ok (.iload_n 1, 1) := by decide +kernel
theorem dX8_bay_28 : decode cX8_bay 28 = .ok (.invokevirtual 102, 3) := by decide +kernel
theorem dX8_bay_31 : decode cX8_bay 31 = .ok (.istore_n 3, 1) := by decide +kernel
theorem dX8_bay_32 : decode cX8_bay 32 = .ok (.iload_n 2, 1) := by decide +kernel
theorem dX8_bay_33 : decode cX8_bay 33 = .ok (.lookupswitch 65 #[(0, 35), (1, 45), (6, 55)], 35) := by decide +kernel
theorem dX8_bay_68 : decode cX8_bay 68 = .ok (.aload_n 0, 1) := by decide +kernel
theorem dX8_bay_69 : decode cX8_bay 69 = .ok (.getfield 65, 3) := by decide +kernel
theorem dX8_bay_72 : decode cX8_bay 72 = .ok (.getfield 105, 3) := by decide +kernel
theorem dX8_bay_75 : decode cX8_bay 75 = .ok (.iload_n 1, 1) := by decide +kernel
theorem dX8_bay_76 : decode cX8_bay 76 = .ok (.iaload, 1) := by decide +kernel
theorem dX8_bay_77 : decode cX8_bay 77 = .ok (.ireturn, 1) := by decide +kernel
theorem dX8_bay_78 : decode cX8_bay 78 = .ok (.aload_n 0, 1) := by decide +kernel
theorem dX8_bay_79 : decode cX8_bay 79 = .ok (.getfield 65, 3) := by decide +kernel
theorem dX8_bay_82 : decode cX8_bay 82 = .ok (.getfield 109, 3) := by decide +kernel
theorem dX8_bay_85 : decode cX8_bay 85 = .ok (.iload_n 1, 1) := by decide +kernel
theorem dX8_bay_86 : decode cX8_bay 86 = .ok (.iaload, 1) := by decide +kernel
theorem dX8_bay_87 : decode cX8_bay 87 = .ok (.ireturn, 1) := by decide +kernel
theorem dX8_bay_88 : decode cX8_bay 88 = .ok (.iload_n 3, 1) := by decide +kernel
theorem dX8_bay_89 : decode cX8_bay 89 = .ok (.ifCond .eq 7, 3) := by decide +kernel
theorem dX8_bay_92 : decode cX8_bay 92 = .ok (.iconst 1, 1) := by decide +kernel
theorem dX8_bay_93 : decode cX8_bay 93 = .ok (.goto 4, 3) := by decide +kernel
theorem dX8_bay_96 : decode cX8_bay 96 = .ok (.iconst 0, 1) := by decide +kernel
theorem dX8_bay_97 : decode cX8_bay 97 = .ok (.ireturn, 1) := by decide +kernel
theorem dX8_bay_98 : decode cX8_bay 98 = .ok (.iload_n 3, 1) := by decide +kernel
theorem dX8_bay_99 : decode cX8_bay 99 = .ok (.ifCond .eq 7, 3) := by decide +kernel
theorem dX8_bay_102 : decode cX8_bay 102 = .ok (.iconst 0, 1) := by decide +kernel
theorem dX8_bay_103 : decode cX8_bay 103 = .ok (.goto 9, 3) := by decide +kernel
theorem dX8_bay_106 : decode cX8_bay 106 = .ok (.aload_n 0, 1) := by decide +kernel
theorem dX8_bay_107 : decode cX8_bay 107 = .ok (.iload_n 1, 1) := by decide +kernel
theorem dX8_bay_108 : decode cX8_bay 108 = .ok (.iload_n 2, 1) := by decide +kernel
theorem dX8_bay_109 : decode cX8_bay 109 = .ok (.invokevirtual 112, 3) := by decide +kernel
theorem dX8_bay_112 : decode cX8_bay 112 = .ok (.ireturn, 1) := by decide +kernel
theorem dX8_buttress_0 : decode cX8_buttress 0 = .ok (.aload_n 0, 1) := by decide +kernel
theorem dX8_buttress_1 : decode cX8_buttress 1 = .ok (.getfield 65, 3) := by decide +kernel
theorem dX8_buttress_4 : decode cX8_buttress 4 = .ok (.iload_n 1, 1) := by decide +kernel
theorem dX8_buttress_5 : decode cX8_buttress 5 = .ok (.invokevirtual 116, 3) := by decide +kernel
theorem dX8_buttress_8 : decode cX8_buttress 8 = .ok (.ifCond .ne 5, 3) := by decide +kernel
theorem dX8_buttress_11 : decode cX8_buttress 11 = .ok (.iconst (-1), 1) := by decide +kernel
theorem dX8_buttress_12 : decode cX8_buttress 12 = .ok (.ireturn, 1) := by decide +kernel
theorem dX8_buttress_13 : decode cX8_buttress 13 = .ok (.iload_n 2, 1) := by decide +kernel
theorem dX8_buttress_14 : decode cX8_buttress 14 = .ok (.tableswitch 105 0 5 #[38, 48, 58, 68, 78, 88], 38) := by decide +kernel
theorem dX8_buttress_52 : decode cX8_buttress 52 = .ok (.aload_n 0, 1) := by decide +kernel
theorem dX8_buttress_53 : decode cX8_buttress 53 = .ok (.getfield 65, 3) := by decide +kernel
theorem dX8_buttress_56 : decode cX8_buttress 56 = .ok (.getfield 119, 3) := by decide +kernel
theorem dX8_buttress_59 : decode cX8_buttress 59 = .ok (.iload_n 1, 1) := by decide +kernel
theorem dX8_buttress_60 : decode cX8_buttress 60 = .ok (.iaload, 1) := by decide +kernel
theorem dX8_buttress_61 : decode cX8_buttress 61 = .ok (.ireturn, 1) := by decide +kernel
theorem dX8_buttress_62 : decode cX8_buttress 62 = .ok (.aload_n 0, 1) := by decide +kernel
theorem dX8_buttress_63 : decode cX8_buttress 63 = .ok (.getfield 65, 3) := by decide +kernel
theorem dX8_buttress_66 : decode cX8_buttress 66 = .ok (.getfield 122, 3) := by decide +kernel
theorem dX8_buttress_69 : decode cX8_buttress 69 = .ok (.iload_n 1, 1) := by decide +kernel
theorem dX8_buttress_70 : decode cX8_buttress 70 = .ok (.iaload, 1) := by decide +kernel
theorem dX8_buttress_71 : decode cX8_buttress 71 = .ok (.ireturn, 1) := by decide +kernel
theorem dX8_buttress_72 : decode cX8_buttress 72 = .ok (.aload_n 0, 1) := by decide +kernel
theorem dX8_buttress_73 : decode cX8_buttress 73 = .ok (.getfield 47, 3) := by decide +kernel
theorem dX8_buttress_76 : decode cX8_buttress 76 = .ok (.getfield 125, 3) := by decide +kernel
theorem dX8_buttress_79 : decode cX8_buttress 79 = .ok (.iload_n 1, 1) := by decide +kernel
theorem dX8_buttress_80 : decode cX8_buttress 80 = .ok (.iaload, 1) := by decide +kernel
theorem dX8_buttress_81 : decode cX8_buttress 81 = .ok (.ireturn, 1) := by decide +kernel
theorem dX8_buttress_82 : decode cX8_buttress 82 = .ok (.aload_n 0, 1) := by decide +kernel
theorem dX8_buttress_83 : decode cX8_buttress 83 = .ok (.getfield 65, 3) := by decide +kernel
theorem dX8_buttress_86 : decode cX8_buttress 86 = .ok (.getfield 128, 3) := by decide +kernel
theorem dX8_buttress_89 : decode cX8_buttress 89 = .ok (.iload_n 1, 1) := by decide +kernel
theorem dX8_buttress_90 : decode cX8_buttress 90 = .ok (.iaload, 1) := by decide +kernel
theorem dX8_buttress_91 : decode cX8_buttress 91 = .ok (.ireturn, 1) := by decide +kernel
theorem dX8_buttress_92 : decode cX8_buttress 92 = .ok (.aload_n 0, 1) := by decide +kernel
theorem dX8_buttress_93 : decode cX8_buttress 93 = .ok (.getfield 47, 3) := by decide +kernel
theorem dX8_buttress_96 : decode cX8_buttress 96 = .ok (.getfield 131, 3) := by decide +kernel
theorem dX8_buttress_99 : decode cX8_buttress 99 = .ok (.iload_n 1, 1) := by decide +kernel
theorem dX8_buttress_100 : decode cX8_buttress 100 = .ok (.iaload, 1) := by decide +kernel
theorem dX8_buttress_101 : decode cX8_buttress 101 = .ok (.ireturn, 1) := by decide +kernel
theorem dX8_buttress_102 : decode cX8_buttress 102 = .ok (.aload_n 0, 1) := by decide +kernel
theorem dX8_buttress_103 : decode cX8_buttress 103 = .ok (.getfield 47, 3) := by decide +kernel
theorem dX8_buttress_106 : decode cX8_buttress 106 = .ok (.iload_n 1, 1) := by decide +kernel
theorem dX8_buttress_107 : decode cX8_buttress 107 = .ok (.invokevirtual 134, 3) := by decide +kernel
theorem dX8_buttress_110 : decode cX8_buttress 110 = .ok (.ifCond .eq 7, 3) := by decide +kernel
theorem dX8_buttress_113 : decode cX8_buttress 113 = .ok (.iconst 1, 1) := by decide +kernel
theorem dX8_buttress_114 : decode cX8_buttress 114 = .ok (.goto 4, 3) := by decide +kernel
theorem dX8_buttress_117 : decode cX8_buttress 117 = .ok (.iconst 0, 1) := by decide +kernel
theorem dX8_buttress_118 : decode cX8_buttress 118 = .ok (.ireturn, 1) := by decide +kernel
theorem dX8_buttress_119 : decode cX8_buttress 119 = .ok (.iconst (-1), 1) := by decide +kernel
theorem dX8_buttress_120 : decode cX8_buttress 120 = .ok (.ireturn, 1) := by decide +kernel
theorem dX8_carts_0 : decode cX8_carts 0 = .ok (.iload_n 1, 1) := by decide +kernel
theorem dX8_carts_1 : decode cX8_carts 1 = .ok (.ifCond .lt 9, 3) := by decide +kernel
theorem dX8_carts_4 : decode cX8_carts 4 = .ok (.iload_n 1, 1) := by decide +kernel
theorem dX8_carts_5 : decode cX8_carts 5 = .ok (.bipush 99, 2) := by decide +kernel
theorem dX8_carts_7 : decode cX8_carts 7 = .ok (.if_icmp .le 5, 3) := by decide +kernel
theorem dX8_carts_10 : decode cX8_carts 10 = .ok (.iconst (-1), 1) := by decide +kernel
theorem dX8_carts_11 : decode cX8_carts 11 = .ok (.ireturn, 1) := by decide +kernel
theorem dX8_carts_12 : decode cX8_carts 12 = .ok (.aload_n 0, 1) := by decide +kernel
theorem dX8_carts_13 : decode cX8_carts 13 = .ok (.getfield 65, 3) := by decide +kernel
theorem dX8_carts_16 : decode cX8_carts 16 = .ok (.aload_n 0, 1) := by decide +kernel
theorem dX8_carts_17 : decode cX8_carts 17 = .ok (.getfield 47, 3) := by decide +kernel
theorem dX8_carts_20 : decode cX8_carts 20 = .ok (.getfield 137, 3) := by decide +kernel
theorem dX8_carts_23 : decode cX8_carts 23 = .ok (.iload_n 1, 1) := by decide +kernel
theorem dX8_carts_24 : decode cX8_carts 24 = .ok (.iadd, 1) := by decide +kernel
theorem dX8_carts_25 : decode cX8_carts 25 = .ok (.invokevirtual 140, 3) := by decide +kernel
theorem dX8_carts_28 : decode cX8_carts 28 = .ok (.ifCond .eq 7, 3) := by decide +kernel
theorem dX8_carts_31 : decode cX8_carts 31 = .ok (.iconst 1, 1) := by decide +kernel
theorem dX8_carts_32 : decode cX8_carts 32 = .ok (.goto 4, 3) := by decide +kernel
theorem dX8_carts_35 : decode cX8_carts 35 = .ok (.iconst 0, 1) := by decide +kernel
theorem dX8_carts_36 : decode cX8_carts 36 = .ok (.ireturn, 1) := by decide +kernel
theorem dX8_pass_0 : decode cX8_pass 0 = .ok (.iload_n 1, 1) := by decide +kernel
theorem dX8_pass_1 : decode cX8_pass 1 = .ok (.iconst 1, 1) := by decide +kernel
theorem dX8_pass_2 : decode cX8_pass 2 = .ok (.if_icmp .lt 9, 3) := by decide +kernel
theorem dX8_pass_5 : decode cX8_pass 5 = .ok (.iload_n 1, 1) := by decide +kernel
theorem dX8_pass_6 : decode cX8_pass 6 = .ok (.bipush 24, 2) := by decide +kernel
theorem dX8_pass_8 : decode cX8_pass 8 = .ok (.if_icmp .le 5, 3) := by decide +kernel
theorem dX8_pass_11 : decode cX8_pass 11 = .ok (.iconst (-1), 1) := by decide +kernel
theorem dX8_pass_12 : decode cX8_pass 12 = .ok (.ireturn, 1) := by decide +kernel
theorem dX8_pass_13 : decode cX8_pass 13 = .ok (.aload_n 0, 1) := by decide +kernel
theorem dX8_pass_14 : decode cX8_pass 14 = .ok (.getfield 54, 3) := by decide +kernel
theorem dX8_pass_17 : decode cX8_pass 17 = .ok (.aload_n 0, 1) := by decide +kernel
theorem dX8_pass_18 : decode cX8_pass 18 = .ok (.getfield 47, 3) := by decide +kernel
theorem dX8_pass_21 : decode cX8_pass 21 = .ok (.invokevirtual 143, 3) := by decide +kernel
theorem dX8_pass_24 : decode cX8_pass 24 = .ok (.iconst 0, 1) := by decide +kernel
theorem dX8_pass_25 : decode cX8_pass 25 = .ok (.istore_n 2, 1) := by decide +kernel
theorem dX8_pass_26 : decode cX8_pass 26 = .ok (.iload_n 2, 1) := by decide +kernel
theorem dX8_pass_27 : decode cX8_pass 27 = .ok (.iload_n 1, 1) := by decide +kernel
theorem dX8_pass_28 : decode cX8_pass 28 = .ok (.if_icmp .ge 25, 3) := by decide +kernel
theorem dX8_pass_31 : decode cX8_pass 31 = .ok (.aload_n 0, 1) := by decide +kernel
theorem dX8_pass_32 : decode cX8_pass 32 = .ok (.getfield 26, 3) := by decide +kernel
theorem dX8_pass_35 : decode cX8_pass 35 = .ok (.aload_n 0, 1) := by decide +kernel
theorem dX8_pass_36 : decode cX8_pass 36 = .ok (.getfield 65, 3) := by decide +kernel
theorem dX8_pass_39 : decode cX8_pass 39 = .ok (.aload_n 0, 1) := by decide +kernel
theorem dX8_pass_40 : decode cX8_pass 40 = .ok (.getfield 47, 3) := by decide +kernel
theorem dX8_pass_43 : decode cX8_pass 43 = .ok (.invokevirtual 147, 3) := by decide +kernel
theorem dX8_pass_46 : decode cX8_pass 46 = .ok (.pop, 1) := by decide +kernel
theorem dX8_pass_47 : decode cX8_pass 47 = .ok (.iinc 2 1, 3) := by decide +kernel
theorem dX8_pass_50 : decode cX8_pass 50 = .ok (.goto (-24), 3) := by decide +kernel
theorem dX8_pass_53 : decode cX8_pass 53 = .ok (.aload_n 0, 1) := by decide +kernel
theorem dX8_pass_54 : decode cX8_pass 54 = .ok (.getfield 47, 3) := by decide +kernel
theorem dX8_pass_57 : decode cX8_pass 57 = .ok (.getfield 137, 3) := by decide +kernel
theorem dX8_pass_60 : decode cX8_pass 60 = .ok (.ireturn, 1) := by decide +kernel
theorem dX8_down_0 : decode cX8_down 0 = .ok (.aload_n 0, 1) := by decide +kernel
theorem dX8_down_1 : decode cX8_down 1 = .ok (.getfield 65, 3) := by decide +kernel
theorem dX8_down_4 : decode cX8_down 4 = .ok (.iload_n 1, 1) := by decide +kernel
theorem dX8_down_5 : decode cX8_down 5 = .ok (.invokevirtual 116, 3) := by decide +kernel
theorem dX8_down_8 : decode cX8_down 8 = .ok (.ifCond .ne 5, 3) := by decide +kernel
theorem dX8_down_11 : decode cX8_down 11 = .ok (.iconst (-1), 1) := by decide +kernel
theorem dX8_down_12 : decode cX8_down 12 = .ok (.ireturn, 1) := by decide +kernel
theorem dX8_down_13 : decode cX8_down 13 = .ok (.aload_n 0, 1) := by decide +kernel
theorem dX8_down_14 : decode cX8_down 14 = .ok (.getfield 47, 3) := by decide +kernel
theorem dX8_down_17 : decode cX8_down 17 = .ok (.aload_n 0, 1) := by decide +kernel
theorem dX8_down_18 : decode cX8_down 18 = .ok (.getfield 65, 3) := by decide +kernel
theorem dX8_down_21 : decode cX8_down 21 = .ok (.iload_n 1, 1) := by decide +kernel
theorem dX8_down_22 : decode cX8_down 22 = .ok (.invokevirtual 151, 3) := by decide +kernel
theorem dX8_down_25 : decode cX8_down 25 = .ok (.ifCond .ne 6, 3) := by decide +kernel
theorem dX8_down_28 : decode cX8_down 28 = .ok (.bipush (-2), 2) := by decide +kernel
theorem dX8_down_30 : decode cX8_down 30 = .ok (.ireturn, 1) := by decide +kernel
theorem dX8_down_31 : decode cX8_down 31 = .ok (.aload_n 0, 1) := by decide +kernel
theorem dX8_down_32 : decode cX8_down 32 = .ok (.getfield 54, 3) := by decide +kernel
theorem dX8_down_35 : decode cX8_down 35 = .ok (.aload_n 0, 1) := by decide +kernel
theorem dX8_down_36 : decode cX8_down 36 = .ok (.getfield 47, 3) := by decide +kernel
theorem dX8_down_39 : decode cX8_down 39 = .ok (.invokevirtual 143, 3) := by decide +kernel
theorem dX8_down_42 : decode cX8_down 42 = .ok (.aload_n 0, 1) := by decide +kernel
theorem dX8_down_43 : decode cX8_down 43 = .ok (.getfield 47, 3) := by decide +kernel
theorem dX8_down_46 : decode cX8_down 46 = .ok (.iload_n 1, 1) := by decide +kernel
theorem dX8_down_47 : decode cX8_down 47 = .ok (.invokevirtual 155, 3) := by decide +kernel
theorem dX8_down_50 : decode cX8_down 50 = .ok (.aload_n 0, 1) := by decide +kernel
theorem dX8_down_51 : decode cX8_down 51 = .ok (.getfield 47, 3) := by decide +kernel
theorem dX8_down_54 : decode cX8_down 54 = .ok (.getfield 131, 3) := by decide +kernel
theorem dX8_down_57 : decode cX8_down 57 = .ok (.iload_n 1, 1) := by decide +kernel
theorem dX8_down_58 : decode cX8_down 58 = .ok (.iaload, 1) := by decide +kernel
theorem dX8_down_59 : decode cX8_down 59 = .ok (.ireturn, 1) := by decide +kernel
theorem dX8_up_0 : decode cX8_up 0 = .ok (.aload_n 0, 1) := by decide +kernel
theorem dX8_up_1 : decode cX8_up 1 = .ok (.getfield 65, 3) := by decide +kernel
theorem dX8_up_4 : decode cX8_up 4 = .ok (.iload_n 1, 1) := by decide +kernel
theorem dX8_up_5 : decode cX8_up 5 = .ok (.invokevirtual 116, 3) := by decide +kernel
theorem dX8_up_8 : decode cX8_up 8 = .ok (.ifCond .ne 5, 3) := by decide +kernel
theorem dX8_up_11 : decode cX8_up 11 = .ok (.iconst (-1), 1) := by decide +kernel
theorem dX8_up_12 : decode cX8_up 12 = .ok (.ireturn, 1) := by decide +kernel
theorem dX8_up_13 : decode cX8_up 13 = .ok (.aload_n 0, 1) := by decide +kernel
theorem dX8_up_14 : decode cX8_up 14 = .ok (.getfield 47, 3) := by decide +kernel
theorem dX8_up_17 : decode cX8_up 17 = .ok (.aload_n 0, 1) := by decide +kernel
theorem dX8_up_18 : decode cX8_up 18 = .ok (.getfield 65, 3) := by decide +kernel
theorem dX8_up_21 : decode cX8_up 21 = .ok (.iload_n 1, 1) := by decide +kernel
theorem dX8_up_22 : decode cX8_up 22 = .ok (.invokevirtual 159, 3) := by decide +kernel
theorem dX8_up_25 : decode cX8_up 25 = .ok (.ifCond .ne 6, 3) := by decide +kernel
theorem dX8_up_28 : decode cX8_up 28 = .ok (.bipush (-2), 2) := by decide +kernel
theorem dX8_up_30 : decode cX8_up 30 = .ok (.ireturn, 1) := by decide +kernel
theorem dX8_up_31 : decode cX8_up 31 = .ok (.aload_n 0, 1) := by decide +kernel
theorem dX8_up_32 : decode cX8_up 32 = .ok (.getfield 54, 3) := by decide +kernel
theorem dX8_up_35 : decode cX8_up 35 = .ok (.aload_n 0, 1) := by decide +kernel
theorem dX8_up_36 : decode cX8_up 36 = .ok (.getfield 47, 3) := by decide +kernel
theorem dX8_up_39 : decode cX8_up 39 = .ok (.invokevirtual 143, 3) := by decide +kernel
theorem dX8_up_42 : decode cX8_up 42 = .ok (.aload_n 0, 1) := by decide +kernel
theorem dX8_up_43 : decode cX8_up 43 = .ok (.getfield 47, 3) := by decide +kernel
theorem dX8_up_46 : decode cX8_up 46 = .ok (.iload_n 1, 1) := by decide +kernel
theorem dX8_up_47 : decode cX8_up 47 = .ok (.invokevirtual 162, 3) := by decide +kernel
theorem dX8_up_50 : decode cX8_up 50 = .ok (.aload_n 0, 1) := by decide +kernel
theorem dX8_up_51 : decode cX8_up 51 = .ok (.getfield 47, 3) := by decide +kernel
theorem dX8_up_54 : decode cX8_up 54 = .ok (.aload_n 0, 1) := by decide +kernel
theorem dX8_up_55 : decode cX8_up 55 = .ok (.getfield 65, 3) := by decide +kernel
theorem dX8_up_58 : decode cX8_up 58 = .ok (.aload_n 0, 1) := by decide +kernel
theorem dX8_up_59 : decode cX8_up 59 = .ok (.getfield 47, 3) := by decide +kernel
theorem dX8_up_62 : decode cX8_up 62 = .ok (.getfield 125, 3) := by decide +kernel
theorem dX8_up_65 : decode cX8_up 65 = .ok (.iload_n 1, 1) := by decide +kernel
theorem dX8_up_66 : decode cX8_up 66 = .ok (.iaload, 1) := by decide +kernel
theorem dX8_up_67 : decode cX8_up 67 = .ok (.invokevirtual 165, 3) := by decide +kernel
theorem dX8_up_70 : decode cX8_up 70 = .ok (.ireturn, 1) := by decide +kernel
theorem dX8_send_0 : decode cX8_send 0 = .ok (.aload_n 0, 1) := by decide +kernel
theorem dX8_send_1 : decode cX8_send 1 = .ok (.getfield 65, 3) := by decide +kernel
theorem dX8_send_4 : decode cX8_send 4 = .ok (.iload_n 1, 1) := by decide +kernel
theorem dX8_send_5 : decode cX8_send 5 = .ok (.invokevirtual 116, 3) := by decide +kernel
theorem dX8_send_8 : decode cX8_send 8 = .ok (.ifCond .eq 14, 3) := by decide +kernel
theorem dX8_send_11 : decode cX8_send 11 = .ok (.aload_n 0, 1) := by decide +kernel
theorem dX8_send_12 : decode cX8_send 12 = .ok (.getfield 65, 3) := by decide +kernel
theorem dX8_send_15 : decode cX8_send 15 = .ok (.iload_n 2, 1) := by decide +kernel
theorem dX8_send_16 : decode cX8_send 16 = .ok (.invokevirtual 98, 3) := by decide +kernel
theorem dX8_send_19 : decode cX8_send 19 = .ok (.ifCond .ne 5, 3) := by decide +kernel
theorem dX8_send_22 : decode cX8_send 22 = .ok (.iconst (-1), 1) := by decide +kernel
theorem dX8_send_23 : decode cX8_send 23 = .ok (.ireturn, 1) := by decide +kernel
theorem dX8_send_24 : decode cX8_send 24 = .ok (.aload_n 0, 1) := by decide +kernel
theorem dX8_send_25 : decode cX8_send 25 = .ok (.getfield 47, 3) := by decide +kernel
theorem dX8_send_28 : decode cX8_send 28 = .ok (.iload_n 1, 1) := by decide +kernel
theorem dX8_send_29 : decode cX8_send 29 = .ok (.invokevirtual 134, 3) := by decide +kernel
theorem dX8_send_32 : decode cX8_send 32 = .ok (.ifCond .eq 6, 3) := by decide +kernel
theorem dX8_send_35 : decode cX8_send 35 = .ok (.bipush (-2), 2) := by decide +kernel
theorem dX8_send_37 : decode cX8_send 37 = .ok (.ireturn, 1) := by decide +kernel
theorem dX8_send_38 : decode cX8_send 38 = .ok (.aload_n 0, 1) := by decide +kernel
theorem dX8_send_39 : decode cX8_send 39 = .ok (.getfield 54, 3) := by decide +kernel
theorem dX8_send_42 : decode cX8_send 42 = .ok (.aload_n 0, 1) := by decide +kernel
theorem dX8_send_43 : decode cX8_send 43 = .ok (.getfield 47, 3) := by decide +kernel
theorem dX8_send_46 : decode cX8_send 46 = .ok (.invokevirtual 143, 3) := by decide +kernel
theorem dX8_send_49 : decode cX8_send 49 = .ok (.aload_n 0, 1) := by decide +kernel
theorem dX8_send_50 : decode cX8_send 50 = .ok (.getfield 47, 3) := by decide +kernel
theorem dX8_send_53 : decode cX8_send 53 = .ok (.getfield 125, 3) := by decide +kernel
theorem dX8_send_56 : decode cX8_send 56 = .ok (.iload_n 1, 1) := by decide +kernel
theorem dX8_send_57 : decode cX8_send 57 = .ok (.iaload, 1) := by decide +kernel
theorem dX8_send_58 : decode cX8_send 58 = .ok (.istore_n 3, 1) := by decide +kernel
theorem dX8_send_59 : decode cX8_send 59 = .ok (.aload_n 0, 1) := by decide +kernel
theorem dX8_send_60 : decode cX8_send 60 = .ok (.getfield 47, 3) := by decide +kernel
theorem dX8_send_63 : decode cX8_send 63 = .ok (.getfield 125, 3) := by decide +kernel
theorem dX8_send_66 : decode cX8_send 66 = .ok (.iload_n 1, 1) := by decide +kernel
theorem dX8_send_67 : decode cX8_send 67 = .ok (.iload_n 2, 1) := by decide +kernel
theorem dX8_send_68 : decode cX8_send 68 = .ok (.iastore, 1) := by decide +kernel
theorem dX8_send_69 : decode cX8_send 69 = .ok (.iload_n 3, 1) := by decide +kernel
theorem dX8_send_70 : decode cX8_send 70 = .ok (.ireturn, 1) := by decide +kernel
theorem dX8_undo_0 : decode cX8_undo 0 = .ok (.aload_n 0, 1) := by decide +kernel
theorem dX8_undo_1 : decode cX8_undo 1 = .ok (.getfield 54, 3) := by decide +kernel
theorem dX8_undo_4 : decode cX8_undo 4 = .ok (.aload_n 0, 1) := by decide +kernel
theorem dX8_undo_5 : decode cX8_undo 5 = .ok (.getfield 47, 3) := by decide +kernel
theorem dX8_undo_8 : decode cX8_undo 8 = .ok (.invokevirtual 169, 3) := by decide +kernel
theorem dX8_undo_11 : decode cX8_undo 11 = .ok (.ifCond .eq 13, 3) := by decide +kernel
theorem dX8_undo_14 : decode cX8_undo 14 = .ok (.aload_n 0, 1) := by decide +kernel
theorem dX8_undo_15 : decode cX8_undo 15 = .ok (.getfield 54, 3) := by decide +kernel
theorem dX8_undo_18 : decode cX8_undo 18 = .ok (.getfield 173, 3) := by decide +kernel
theorem dX8_undo_21 : decode cX8_undo 21 = .ok (.goto 5, 3) := by decide +kernel
theorem dX8_undo_24 : decode cX8_undo 24 = .ok (.bipush (-2), 2) := by decide +kernel
theorem dX8_undo_26 : decode cX8_undo 26 = .ok (.ireturn, 1) := by decide +kernel
theorem dX8_stands_0 : decode cX8_stands 0 = .ok (.iload_n 1, 1) := by decide +kernel
theorem dX8_stands_1 : decode cX8_stands 1 = .ok (.ifCond .lt 8, 3) := by decide +kernel
theorem dX8_stands_4 : decode cX8_stands 4 = .ok (.iload_n 1, 1) := by decide +kernel
theorem dX8_stands_5 : decode cX8_stands 5 = .ok (.iconst 1, 1) := by decide +kernel
theorem dX8_stands_6 : decode cX8_stands 6 = .ok (.if_icmp .le 5, 3) := by decide +kernel
theorem dX8_stands_9 : decode cX8_stands 9 = .ok (.iconst (-1), 1) := by decide +kernel
theorem dX8_stands_10 : decode cX8_stands 10 = .ok (.ireturn, 1) := by decide +kernel
theorem dX8_stands_11 : decode cX8_stands 11 = .ok (.aload_n 0, 1) := by decide +kernel
theorem dX8_stands_12 : decode cX8_stands 12 = .ok (.getfield 33, 3) := by decide +kernel
theorem dX8_stands_15 : decode cX8_stands 15 = .ok (.aload_n 0, 1) := by decide +kernel
theorem dX8_stands_16 : decode cX8_stands 16 = .ok (.getfield 47, 3) := by decide +kernel
theorem dX8_stands_19 : decode cX8_stands 19 = .ok (.invokevirtual 176, 3) := by decide +kernel
theorem dX8_stands_22 : decode cX8_stands 22 = .ok (.aload_n 0, 1) := by decide +kernel
theorem dX8_stands_23 : decode cX8_stands 23 = .ok (.getfield 33, 3) := by decide +kernel
theorem dX8_stands_26 : decode cX8_stands 26 = .ok (.aload_n 0, 1) := by decide +kernel
theorem dX8_stands_27 : decode cX8_stands 27 = .ok (.getfield 65, 3) := by decide +kernel
theorem dX8_stands_30 : decode cX8_stands 30 = .ok (.bipush 60, 2) := by decide +kernel
theorem dX8_stands_32 : decode cX8_stands 32 = .ok (.invokevirtual 179, 3) := by decide +kernel
theorem dX8_stands_35 : decode cX8_stands 35 = .ok (.istore_n 2, 1) := by decide +kernel
theorem dX8_stands_36 : decode cX8_stands 36 = .ok (.iload_n 1, 1) := by decide +kernel
theorem dX8_stands_37 : decode cX8_stands 37 = .ok (.ifCond .ne 7, 3) := by decide +kernel
theorem dX8_stands_40 : decode cX8_stands 40 = .ok (.iload_n 2, 1) := by decide +kernel
theorem dX8_stands_41 : decode cX8_stands 41 = .ok (.goto 10, 3) := by decide +kernel
theorem dX8_stands_44 : decode cX8_stands 44 = .ok (.aload_n 0, 1) := by decide +kernel
theorem dX8_stands_45 : decode cX8_stands 45 = .ok (.getfield 33, 3) := by decide +kernel
theorem dX8_stands_48 : decode cX8_stands 48 = .ok (.invokevirtual 182, 3) := by decide +kernel
theorem dX8_stands_51 : decode cX8_stands 51 = .ok (.ireturn, 1) := by decide +kernel
theorem dX8_needed_0 : decode cX8_needed 0 = .ok (.bipush (-4), 2) := by decide +kernel
theorem dX8_needed_2 : decode cX8_needed 2 = .ok (.istore_n 1, 1) := by decide +kernel
theorem dX8_needed_3 : decode cX8_needed 3 = .ok (.iconst 0, 1) := by decide +kernel
theorem dX8_needed_4 : decode cX8_needed 4 = .ok (.istore_n 2, 1) := by decide +kernel
theorem dX8_needed_5 : decode cX8_needed 5 = .ok (.iload_n 2, 1) := by decide +kernel
theorem dX8_needed_6 : decode cX8_needed 6 = .ok (.aload_n 0, 1) := by decide +kernel
theorem dX8_needed_7 : decode cX8_needed 7 = .ok (.getfield 65, 3) := by decide +kernel
theorem dX8_needed_10 : decode cX8_needed 10 = .ok (.invokevirtual 185, 3) := by decide +kernel
theorem dX8_needed_13 : decode cX8_needed 13 = .ok (.if_icmp .gt 42, 3) := by decide +kernel
theorem dX8_needed_16 : decode cX8_needed 16 = .ok (.iload_n 2, 1) := by decide +kernel
theorem dX8_needed_17 : decode cX8_needed 17 = .ok (.iload_n 1, 1) := by decide +kernel
theorem dX8_needed_18 : decode cX8_needed 18 = .ok (.invokestatic 188, 3) := by decide +kernel
theorem dX8_needed_21 : decode cX8_needed 21 = .ok (.ifCond .eq 28, 3) := by decide +kernel
theorem dX8_needed_24 : decode cX8_needed 24 = .ok (.aload_n 0, 1) := by decide +kernel
theorem dX8_needed_25 : decode cX8_needed 25 = .ok (.getfield 47, 3) := by decide +kernel
theorem dX8_needed_28 : decode cX8_needed 28 = .ok (.aload_n 0, 1) := by decide +kernel
theorem dX8_needed_29 : decode cX8_needed 29 = .ok (.getfield 65, 3) := by decide +kernel
theorem dX8_needed_32 : decode cX8_needed 32 = .ok (.iload_n 2, 1) := by decide +kernel
theorem dX8_needed_33 : decode cX8_needed 33 = .ok (.invokevirtual 192, 3) := by decide +kernel
theorem dX8_needed_36 : decode cX8_needed 36 = .ok (.ifCond .eq 13, 3) := by decide +kernel
theorem dX8_needed_39 : decode cX8_needed 39 = .ok (.aload_n 0, 1) := by decide +kernel
theorem dX8_needed_40 : decode cX8_needed 40 = .ok (.iload_n 2, 1) := by decide +kernel
theorem dX8_needed_41 : decode cX8_needed 41 = .ok (.invokevirtual 195, 3) := by decide +kernel
theorem dX8_needed_44 : decode cX8_needed 44 = .ok (.ifCond .eq 5, 3) := by decide +kernel
theorem dX8_needed_47 : decode cX8_needed 47 = .ok (.iload_n 2, 1) := by decide +kernel
theorem dX8_needed_48 : decode cX8_needed 48 = .ok (.istore_n 1, 1) := by decide +kernel
theorem dX8_needed_49 : decode cX8_needed 49 = .ok (.iinc 2 1, 3) := by decide +kernel
theorem dX8_needed_52 : decode cX8_needed 52 = .ok (.goto (-47), 3) := by decide +kernel
theorem dX8_needed_55 : decode cX8_needed 55 = .ok (.iload_n 1, 1) := by decide +kernel
theorem dX8_needed_56 : decode cX8_needed 56 = .ok (.ireturn, 1) := by decide +kernel
theorem dX8_cuts_0 : decode cX8_cuts 0 = .ok (.bipush (-4), 2) := by decide +kernel
theorem dX8_cuts_2 : decode cX8_cuts 2 = .ok (.istore_n 1, 1) := by decide +kernel
theorem dX8_cuts_3 : decode cX8_cuts 3 = .ok (.iconst 0, 1) := by decide +kernel
theorem dX8_cuts_4 : decode cX8_cuts 4 = .ok (.istore_n 2, 1) := by decide +kernel
theorem dX8_cuts_5 : decode cX8_cuts 5 = .ok (.iload_n 2, 1) := by decide +kernel
theorem dX8_cuts_6 : decode cX8_cuts 6 = .ok (.aload_n 0, 1) := by decide +kernel
theorem dX8_cuts_7 : decode cX8_cuts 7 = .ok (.getfield 65, 3) := by decide +kernel
theorem dX8_cuts_10 : decode cX8_cuts 10 = .ok (.invokevirtual 185, 3) := by decide +kernel
theorem dX8_cuts_13 : decode cX8_cuts 13 = .ok (.if_icmp .gt 41, 3) := by decide +kernel
theorem dX8_cuts_16 : decode cX8_cuts 16 = .ok (.iload_n 2, 1) := by decide +kernel
theorem dX8_cuts_17 : decode cX8_cuts 17 = .ok (.iload_n 1, 1) := by decide +kernel
theorem dX8_cuts_18 : decode cX8_cuts 18 = .ok (.invokestatic 188, 3) := by decide +kernel
theorem dX8_cuts_21 : decode cX8_cuts 21 = .ok (.ifCond .eq 27, 3) := by decide +kernel
theorem dX8_cuts_24 : decode cX8_cuts 24 = .ok (.iload_n 2, 1) := by decide +kernel
theorem dX8_cuts_25 : decode cX8_cuts 25 = .ok (.aload_n 0, 1) := by decide +kernel
theorem dX8_cuts_26 : decode cX8_cuts 26 = .ok (.getfield 47, 3) := by decide +kernel
theorem dX8_cuts_29 : decode cX8_cuts 29 = .ok (.getfield 198, 3) := by decide +kernel
theorem dX8_cuts_32 : decode cX8_cuts 32 = .ok (.invokestatic 201, 3) := by decide +kernel
theorem dX8_cuts_35 : decode cX8_cuts 35 = .ok (.ifCond .eq 13, 3) := by decide +kernel
theorem dX8_cuts_38 : decode cX8_cuts 38 = .ok (.aload_n 0, 1) := by decide +kernel
theorem dX8_cuts_39 : decode cX8_cuts 39 = .ok (.iload_n 2, 1) := by decide +kernel
theorem dX8_cuts_40 : decode cX8_cuts 40 = .ok (.invokevirtual 204, 3) := by decide +kernel
theorem dX8_cuts_43 : decode cX8_cuts 43 = .ok (.ifCond .eq 5, 3) := by decide +kernel
theorem dX8_cuts_46 : decode cX8_cuts 46 = .ok (.iload_n 2, 1) := by decide +kernel
theorem dX8_cuts_47 : decode cX8_cuts 47 = .ok (.istore_n 1, 1) := by decide +kernel
theorem dX8_cuts_48 : decode cX8_cuts 48 = .ok (.iinc 2 1, 3) := by decide +kernel
theorem dX8_cuts_51 : decode cX8_cuts 51 = .ok (.goto (-46), 3) := by decide +kernel
theorem dX8_cuts_54 : decode cX8_cuts 54 = .ok (.iload_n 1, 1) := by decide +kernel
theorem dX8_cuts_55 : decode cX8_cuts 55 = .ok (.ireturn, 1) := by decide +kernel
theorem dX8_roster_0 : decode cX8_roster 0 = .ok (.iload_n 1, 1) := by decide +kernel
theorem dX8_roster_1 : decode cX8_roster 1 = .ok (.iconst 1, 1) := by decide +kernel
theorem dX8_roster_2 : decode cX8_roster 2 = .ok (.if_icmp .lt 24, 3) := by decide +kernel
theorem dX8_roster_5 : decode cX8_roster 5 = .ok (.iload_n 1, 1) := by decide +kernel
theorem dX8_roster_6 : decode cX8_roster 6 = .ok (.iconst 5, 1) := by decide +kernel
theorem dX8_roster_7 : decode cX8_roster 7 = .ok (.if_icmp .gt 19, 3) := by decide +kernel
theorem dX8_roster_10 : decode cX8_roster 10 = .ok (.iload_n 2, 1) := by decide +kernel
theorem dX8_roster_11 : decode cX8_roster 11 = .ok (.iconst (-1), 1) := by decide +kernel
theorem dX8_roster_12 : decode cX8_roster 12 = .ok (.if_icmp .eq 16, 3) := by decide +kernel
theorem dX8_roster_15 : decode cX8_roster 15 = .ok (.aload_n 0, 1) := by decide +kernel
theorem dX8_roster_16 : decode cX8_roster 16 = .ok (.getfield 65, 3) := by decide +kernel
theorem dX8_roster_19 : decode cX8_roster 19 = .ok (.iload_n 2, 1) := by decide +kernel
theorem dX8_roster_20 : decode cX8_roster 20 = .ok (.invokevirtual 116, 3) := by decide +kernel
theorem dX8_roster_23 : decode cX8_roster 23 = .ok (.ifCond .ne 5, 3) := by decide +kernel
theorem dX8_roster_26 : decode cX8_roster 26 = .ok (.iconst (-1), 1) := by decide +kernel
theorem dX8_roster_27 : decode cX8_roster 27 = .ok (.ireturn, 1) := by decide +kernel
theorem dX8_roster_28 : decode cX8_roster 28 = .ok (.iload_n 2, 1) := by decide +kernel
theorem dX8_roster_29 : decode cX8_roster 29 = .ok (.iconst (-1), 1) := by decide +kernel
theorem dX8_roster_30 : decode cX8_roster 30 = .ok (.if_icmp .eq 14, 3) := by decide +kernel
theorem dX8_roster_33 : decode cX8_roster 33 = .ok (.aload_n 0, 1) := by decide +kernel
theorem dX8_roster_34 : decode cX8_roster 34 = .ok (.getfield 47, 3) := by decide +kernel
theorem dX8_roster_37 : decode cX8_roster 37 = .ok (.iload_n 2, 1) := by decide +kernel
theorem dX8_roster_38 : decode cX8_roster 38 = .ok (.invokevirtual 134, 3) := by decide +kernel
theorem dX8_roster_41 : decode cX8_roster 41 = .ok (.ifCond .eq 22, 3) := by decide +kernel
theorem dX8_roster_44 : decode cX8_roster 44 = .ok (.aload_n 0, 1) := by decide +kernel
theorem dX8_roster_45 : decode cX8_roster 45 = .ok (.getfield 40, 3) := by decide +kernel
theorem dX8_roster_48 : decode cX8_roster 48 = .ok (.aload_n 0, 1) := by decide +kernel
theorem dX8_roster_49 : decode cX8_roster 49 = .ok (.getfield 65, 3) := by decide +kernel
theorem dX8_roster_52 : decode cX8_roster 52 = .ok (.aload_n 0, 1) := by decide +kernel
theorem dX8_roster_53 : decode cX8_roster 53 = .ok (.getfield 47, 3) := by decide +kernel
theorem dX8_roster_56 : decode cX8_roster 56 = .ok (.iload_n 1, 1) := by decide +kernel
theorem dX8_roster_57 : decode cX8_roster 57 = .ok (.invokevirtual 207, 3) := by decide +kernel
theorem dX8_roster_60 : decode cX8_roster 60 = .ok (.ifCond .ne 6, 3) := by decide +kernel
theorem dX8_roster_63 : decode cX8_roster 63 = .ok (.bipush (-4), 2) := by decide +kernel
theorem dX8_roster_65 : decode cX8_roster 65 = .ok (.ireturn, 1) := by decide +kernel
theorem dX8_roster_66 : decode cX8_roster 66 = .ok (.iload_n 2, 1) := by decide +kernel
theorem dX8_roster_67 : decode cX8_roster 67 = .ok (.iconst (-1), 1) := by decide +kernel
theorem dX8_roster_68 : decode cX8_roster 68 = .ok (.if_icmp .ne 7, 3) := by decide +kernel
theorem dX8_roster_71 : decode cX8_roster 71 = .ok (.iconst 1, 1) := by decide +kernel
theorem dX8_roster_72 : decode cX8_roster 72 = .ok (.goto 11, 3) := by decide +kernel
theorem dX8_roster_75 : decode cX8_roster 75 = .ok (.aload_n 0, 1) := by decide +kernel
theorem dX8_roster_76 : decode cX8_roster 76 = .ok (.getfield 40, 3) := by decide +kernel
theorem dX8_roster_79 : decode cX8_roster 79 = .ok (.iload_n 2, 1) := by decide +kernel
theorem dX8_roster_80 : decode cX8_roster 80 = .ok (.invokevirtual 211, 3) := by decide +kernel
theorem dX8_roster_83 : decode cX8_roster 83 = .ok (.ireturn, 1) := by decide +kernel
theorem dX8_place_0 : decode cX8_place 0 = .ok (.aload_n 0, 1) := by decide +kernel
theorem dX8_place_1 : decode cX8_place 1 = .ok (.getfield 65, 3) := by decide +kernel
theorem dX8_place_4 : decode cX8_place 4 = .ok (.iload_n 1, 1) := by decide +kernel
theorem dX8_place_5 : decode cX8_place 5 = .ok (.invokevirtual 116, 3) := by decide +kernel
theorem dX8_place_8 : decode cX8_place 8 = .ok (.ifCond .ne 5, 3) := by decide +kernel
theorem dX8_place_11 : decode cX8_place 11 = .ok (.iconst (-1), 1) := by decide +kernel
theorem dX8_place_12 : decode cX8_place 12 = .ok (.ireturn, 1) := by decide +kernel
theorem dX8_place_13 : decode cX8_place 13 = .ok (.aload_n 0, 1) := by decide +kernel
theorem dX8_place_14 : decode cX8_place 14 = .ok (.getfield 47, 3) := by decide +kernel
theorem dX8_place_17 : decode cX8_place 17 = .ok (.iload_n 1, 1) := by decide +kernel
theorem dX8_place_18 : decode cX8_place 18 = .ok (.invokevirtual 134, 3) := by decide +kernel
theorem dX8_place_21 : decode cX8_place 21 = .ok (.ifCond .eq 6, 3) := by decide +kernel
theorem dX8_place_24 : decode cX8_place 24 = .ok (.bipush (-2), 2) := by decide +kernel
theorem dX8_place_26 : decode cX8_place 26 = .ok (.ireturn, 1) := by decide +kernel
theorem dX8_place_27 : decode cX8_place 27 = .ok (.bipush (-4), 2) := by decide +kernel
theorem dX8_place_29 : decode cX8_place 29 = .ok (.istore_n 2, 1) := by decide +kernel
theorem dX8_place_30 : decode cX8_place 30 = .ok (.iconst 0, 1) := by decide +kernel
theorem dX8_place_31 : decode cX8_place 31 = .ok (.istore_n 3, 1) := by decide +kernel
theorem dX8_place_32 : decode cX8_place 32 = .ok (.iconst 0, 1) := by decide +kernel
theorem dX8_place_33 : decode cX8_place 33 = .ok (.istore 4, 2) := by decide +kernel
theorem dX8_place_35 : decode cX8_place 35 = .ok (.iload 4, 2) := by decide +kernel
theorem dX8_place_37 : decode cX8_place 37 = .ok (.aload_n 0, 1) := by decide +kernel
theorem dX8_place_38 : decode cX8_place 38 = .ok (.getfield 65, 3) := by decide +kernel
theorem dX8_place_41 : decode cX8_place 41 = .ok (.getfield 215, 3) := by decide +kernel
theorem dX8_place_44 : decode cX8_place 44 = .ok (.if_icmp .ge 46, 3) := by decide +kernel
theorem dX8_place_47 : decode cX8_place 47 = .ok (.aload_n 0, 1) := by decide +kernel
theorem dX8_place_48 : decode cX8_place 48 = .ok (.getfield 47, 3) := by decide +kernel
theorem dX8_place_51 : decode cX8_place 51 = .ok (.iload 4, 2) := by decide +kernel
theorem dX8_place_53 : decode cX8_place 53 = .ok (.invokevirtual 102, 3) := by decide +kernel
theorem dX8_place_56 : decode cX8_place 56 = .ok (.ifCond .eq 7, 3) := by decide +kernel
theorem dX8_place_59 : decode cX8_place 59 = .ok (.iconst 0, 1) := by decide +kernel
theorem dX8_place_60 : decode cX8_place 60 = .ok (.goto 10, 3) := by decide +kernel
theorem dX8_place_63 : decode cX8_place 63 = .ok (.aload_n 0, 1) := by decide +kernel
theorem dX8_place_64 : decode cX8_place 64 = .ok (.iload_n 1, 1) := by decide +kernel
theorem dX8_place_65 : decode cX8_place 65 = .ok (.iload 4, 2) := by decide +kernel
theorem dX8_place_67 : decode cX8_place 67 = .ok (.invokevirtual 218, 3) := by decide +kernel
theorem dX8_place_70 : decode cX8_place 70 = .ok (.istore 5, 2) := by decide +kernel
theorem dX8_place_72 : decode cX8_place 72 = .ok (.iload 5, 2) := by decide +kernel
theorem dX8_place_74 : decode cX8_place 74 = .ok (.iload_n 3, 1) := by decide +kernel
theorem dX8_place_75 : decode cX8_place 75 = .ok (.if_icmp .le 9, 3) := by decide +kernel
theorem dX8_place_78 : decode cX8_place 78 = .ok (.iload 4, 2) := by decide +kernel
theorem dX8_place_80 : decode cX8_place 80 = .ok (.istore_n 2, 1) := by decide +kernel
theorem dX8_place_81 : decode cX8_place 81 = .ok (.iload 5, 2) := by decide +kernel
theorem dX8_place_83 : decode cX8_place 83 = .ok (.istore_n 3, 1) := by decide +kernel
theorem dX8_place_84 : decode cX8_place 84 = .ok (.iinc 4 1, 3) := by decide +kernel
theorem dX8_place_87 : decode cX8_place 87 = .ok (.goto (-52), 3) := by decide +kernel
theorem dX8_place_90 : decode cX8_place 90 = .ok (.iload_n 2, 1) := by decide +kernel
theorem dX8_place_91 : decode cX8_place 91 = .ok (.ireturn, 1) := by decide +kernel
theorem dX8_strong_0 : decode cX8_strong 0 = .ok (.aload_n 0, 1) := by decide +kernel
theorem dX8_strong_1 : decode cX8_strong 1 = .ok (.getfield 65, 3) := by decide +kernel
theorem dX8_strong_4 : decode cX8_strong 4 = .ok (.iload_n 1, 1) := by decide +kernel
theorem dX8_strong_5 : decode cX8_strong 5 = .ok (.invokevirtual 116, 3) := by decide +kernel
theorem dX8_strong_8 : decode cX8_strong 8 = .ok (.ifCond .ne 5, 3) := by decide +kernel
theorem dX8_strong_11 : decode cX8_strong 11 = .ok (.iconst (-1), 1) := by decide +kernel
theorem dX8_strong_12 : decode cX8_strong 12 = .ok (.ireturn, 1) := by decide +kernel
theorem dX8_strong_13 : decode cX8_strong 13 = .ok (.aload_n 0, 1) := by decide +kernel
theorem dX8_strong_14 : decode cX8_strong 14 = .ok (.getfield 69, 3) := by decide +kernel
theorem dX8_strong_17 : decode cX8_strong 17 = .ok (.aload_n 0, 1) := by decide +kernel
theorem dX8_strong_18 : decode cX8_strong 18 = .ok (.getfield 65, 3) := by decide +kernel
theorem dX8_strong_21 : decode cX8_strong 21 = .ok (.invokevirtual 221, 3) := by decide +kernel
theorem dX8_strong_24 : decode cX8_strong 24 = .ok (.aload_n 0, 1) := by decide +kernel
theorem dX8_strong_25 : decode cX8_strong 25 = .ok (.iload_n 1, 1) := by decide +kernel
theorem dX8_strong_26 : decode cX8_strong 26 = .ok (.bipush 99, 2) := by decide +kernel
theorem dX8_strong_28 : decode cX8_strong 28 = .ok (.invokevirtual 225, 3) := by decide +kernel
theorem dX8_strong_31 : decode cX8_strong 31 = .ok (.istore_n 2, 1) := by decide +kernel
theorem dX8_strong_32 : decode cX8_strong 32 = .ok (.iconst 1, 1) := by decide +kernel
theorem dX8_strong_33 : decode cX8_strong 33 = .ok (.istore_n 3, 1) := by decide +kernel
theorem dX8_strong_34 : decode cX8_strong 34 = .ok (.bipush 99, 2) := by decide +kernel
theorem dX8_strong_36 : decode cX8_strong 36 = .ok (.istore 4, 2) := by decide +kernel
theorem dX8_strong_38 : decode cX8_strong 38 = .ok (.iconst 0, 1) := by decide +kernel
theorem dX8_strong_39 : decode cX8_strong 39 = .ok (.istore 5, 2) := by decide +kernel
theorem dX8_strong_41 : decode cX8_strong 41 = .ok (.iload 5, 2) := by decide +kernel
theorem dX8_strong_43 : decode cX8_strong 43 = .ok (.bipush 99, 2) := by decide +kernel
theorem dX8_strong_45 : decode cX8_strong 45 = .ok (.if_icmp .ge 46, 3) := by decide +kernel
theorem dX8_strong_48 : decode cX8_strong 48 = .ok (.iload_n 3, 1) := by decide +kernel
theorem dX8_strong_49 : decode cX8_strong 49 = .ok (.iload 4, 2) := by decide +kernel
theorem dX8_strong_51 : decode cX8_strong 51 = .ok (.if_icmp .ge 40, 3) := by decide +kernel
theorem dX8_strong_54 : decode cX8_strong 54 = .ok (.iload_n 3, 1) := by decide +kernel
theorem dX8_strong_55 : decode cX8_strong 55 = .ok (.iload 4, 2) := by decide +kernel
theorem dX8_strong_57 : decode cX8_strong 57 = .ok (.iadd, 1) := by decide +kernel
theorem dX8_strong_58 : decode cX8_strong 58 = .ok (.iconst 2, 1) := by decide +kernel
theorem dX8_strong_59 : decode cX8_strong 59 = .ok (.idiv, 1) := by decide +kernel
theorem dX8_strong_60 : decode cX8_strong 60 = .ok (.istore 6, 2) := by decide +kernel
theorem dX8_strong_62 : decode cX8_strong 62 = .ok (.aload_n 0, 1) := by decide +kernel
theorem dX8_strong_63 : decode cX8_strong 63 = .ok (.iload_n 1, 1) := by decide +kernel
theorem dX8_strong_64 : decode cX8_strong 64 = .ok (.iload 6, 2) := by decide +kernel
theorem dX8_strong_66 : decode cX8_strong 66 = .ok (.invokevirtual 225, 3) := by decide +kernel
theorem dX8_strong_69 : decode cX8_strong 69 = .ok (.iload_n 2, 1) := by decide +kernel
theorem dX8_strong_70 : decode cX8_strong 70 = .ok (.if_icmp .ne 10, 3) := by decide +kernel
theorem dX8_strong_73 : decode cX8_strong 73 = .ok (.iload 6, 2) := by decide +kernel
theorem dX8_strong_75 : decode cX8_strong 75 = .ok (.istore 4, 2) := by decide +kernel
theorem dX8_strong_77 : decode cX8_strong 77 = .ok (.goto 8, 3) := by decide +kernel
theorem dX8_strong_80 : decode cX8_strong 80 = .ok (.iload 6, 2) := by decide +kernel
theorem dX8_strong_82 : decode cX8_strong 82 = .ok (.iconst 1, 1) := by decide +kernel
theorem dX8_strong_83 : decode cX8_strong 83 = .ok (.iadd, 1) := by decide +kernel
theorem dX8_strong_84 : decode cX8_strong 84 = .ok (.istore_n 3, 1) := by decide +kernel
theorem dX8_strong_85 : decode cX8_strong 85 = .ok (.iinc 5 1, 3) := by decide +kernel
theorem dX8_strong_88 : decode cX8_strong 88 = .ok (.goto (-47), 3) := by decide +kernel
theorem dX8_strong_91 : decode cX8_strong 91 = .ok (.iload 4, 2) := by decide +kernel
theorem dX8_strong_93 : decode cX8_strong 93 = .ok (.ireturn, 1) := by decide +kernel
theorem dX8_who_0 : decode cX8_who 0 = .ok (.iload_n 1, 1) := by decide +kernel
theorem dX8_who_1 : decode cX8_who 1 = .ok (.ifCond .lt 23, 3) := by decide +kernel
theorem dX8_who_4 : decode cX8_who 4 = .ok (.iload_n 1, 1) := by decide +kernel
theorem dX8_who_5 : decode cX8_who 5 = .ok (.aload_n 0, 1) := by decide +kernel
theorem dX8_who_6 : decode cX8_who 6 = .ok (.getfield 65, 3) := by decide +kernel
theorem dX8_who_9 : decode cX8_who 9 = .ok (.invokevirtual 228, 3) := by decide +kernel
theorem dX8_who_12 : decode cX8_who 12 = .ok (.if_icmp .gt 12, 3) := by decide +kernel
theorem dX8_who_15 : decode cX8_who 15 = .ok (.iload_n 2, 1) := by decide +kernel
theorem dX8_who_16 : decode cX8_who 16 = .ok (.ifCond .lt 8, 3) := by decide +kernel
theorem dX8_who_19 : decode cX8_who 19 = .ok (.iload_n 2, 1) := by decide +kernel
theorem dX8_who_20 : decode cX8_who 20 = .ok (.iconst 1, 1) := by decide +kernel
theorem dX8_who_21 : decode cX8_who 21 = .ok (.if_icmp .le 5, 3) := by decide +kernel
theorem dX8_who_24 : decode cX8_who 24 = .ok (.iconst (-1), 1) := by decide +kernel
theorem dX8_who_25 : decode cX8_who 25 = .ok (.ireturn, 1) := by decide +kernel
theorem dX8_who_26 : decode cX8_who 26 = .ok (.iconst 0, 1) := by decide +kernel
theorem dX8_who_27 : decode cX8_who 27 = .ok (.istore_n 3, 1) := by decide +kernel
theorem dX8_who_28 : decode cX8_who 28 = .ok (.bipush (-4), 2) := by decide +kernel
theorem dX8_who_30 : decode cX8_who 30 = .ok (.istore 4, 2) := by decide +kernel
theorem dX8_who_32 : decode cX8_who 32 = .ok (.aload_n 0, 1) := by decide +kernel
theorem dX8_who_33 : decode cX8_who 33 = .ok (.getfield 65, 3) := by decide +kernel
theorem dX8_who_36 : decode cX8_who 36 = .ok (.invokevirtual 185, 3) := by decide +kernel
theorem dX8_who_39 : decode cX8_who 39 = .ok (.istore 5, 2) := by decide +kernel
theorem dX8_who_41 : decode cX8_who 41 = .ok (.iload 5, 2) := by decide +kernel
theorem dX8_who_43 : decode cX8_who 43 = .ok (.ifCond .lt 42, 3) := by decide +kernel
theorem dX8_who_46 : decode cX8_who 46 = .ok (.aload_n 0, 1) := by decide +kernel
theorem dX8_who_47 : decode cX8_who 47 = .ok (.getfield 47, 3) := by decide +kernel
theorem dX8_who_50 : decode cX8_who 50 = .ok (.aload_n 0, 1) := by decide +kernel
theorem dX8_who_51 : decode cX8_who 51 = .ok (.getfield 65, 3) := by decide +kernel
theorem dX8_who_54 : decode cX8_who 54 = .ok (.iload 5, 2) := by decide +kernel
theorem dX8_who_56 : decode cX8_who 56 = .ok (.invokevirtual 192, 3) := by decide +kernel
theorem dX8_who_59 : decode cX8_who 59 = .ok (.ifCond .eq 20, 3) := by decide +kernel
theorem dX8_who_62 : decode cX8_who 62 = .ok (.aload_n 0, 1) := by decide +kernel
theorem dX8_who_63 : decode cX8_who 63 = .ok (.iload 5, 2) := by decide +kernel
theorem dX8_who_65 : decode cX8_who 65 = .ok (.invokevirtual 231, 3) := by decide +kernel
theorem dX8_who_68 : decode cX8_who 68 = .ok (.iload_n 1, 1) := by decide +kernel
theorem dX8_who_69 : decode cX8_who 69 = .ok (.if_icmp .ne 10, 3) := by decide +kernel
theorem dX8_who_72 : decode cX8_who 72 = .ok (.iinc 3 1, 3) := by decide +kernel
theorem dX8_who_75 : decode cX8_who 75 = .ok (.iload 5, 2) := by decide +kernel
theorem dX8_who_77 : decode cX8_who 77 = .ok (.istore 4, 2) := by decide +kernel
theorem dX8_who_79 : decode cX8_who 79 = .ok (.iinc 5 (-1), 3) := by decide +kernel
theorem dX8_who_82 : decode cX8_who 82 = .ok (.goto (-41), 3) := by decide +kernel
theorem dX8_who_85 : decode cX8_who 85 = .ok (.iload_n 2, 1) := by decide +kernel
theorem dX8_who_86 : decode cX8_who 86 = .ok (.ifCond .ne 7, 3) := by decide +kernel
theorem dX8_who_89 : decode cX8_who 89 = .ok (.iload_n 3, 1) := by decide +kernel
theorem dX8_who_90 : decode cX8_who 90 = .ok (.goto 5, 3) := by decide +kernel
theorem dX8_who_93 : decode cX8_who 93 = .ok (.iload 4, 2) := by decide +kernel
theorem dX8_who_95 : decode cX8_who 95 = .ok (.ireturn, 1) := by decide +kernel
theorem dX8_knees_0 : decode cX8_knees 0 = .ok (.aload_n 0, 1) := by decide +kernel
theorem dX8_knees_1 : decode cX8_knees 1 = .ok (.getfield 65, 3) := by decide +kernel
theorem dX8_knees_4 : decode cX8_knees 4 = .ok (.iload_n 1, 1) := by decide +kernel
theorem dX8_knees_5 : decode cX8_knees 5 = .ok (.invokevirtual 116, 3) := by decide +kernel
theorem dX8_knees_8 : decode cX8_knees 8 = .ok (.ifCond .eq 14, 3) := by decide +kernel
theorem dX8_knees_11 : decode cX8_knees 11 = .ok (.iload_n 2, 1) := by decide +kernel
theorem dX8_knees_12 : decode cX8_knees 12 = .ok (.iconst 1, 1) := by decide +kernel
theorem dX8_knees_13 : decode cX8_knees 13 = .ok (.if_icmp .lt 9, 3) := by decide +kernel
theorem dX8_knees_16 : decode cX8_knees 16 = .ok (.iload_n 2, 1) := by decide +kernel
theorem dX8_knees_17 : decode cX8_knees 17 = .ok (.bipush 40, 2) := by decide +kernel
theorem dX8_knees_19 : decode cX8_knees 19 = .ok (.if_icmp .le 5, 3) := by decide +kernel
theorem dX8_knees_22 : decode cX8_knees 22 = .ok (.iconst (-1), 1) := by decide +kernel
theorem dX8_knees_23 : decode cX8_knees 23 = .ok (.ireturn, 1) := by decide +kernel
theorem dX8_knees_24 : decode cX8_knees 24 = .ok (.aload_n 0, 1) := by decide +kernel
theorem dX8_knees_25 : decode cX8_knees 25 = .ok (.getfield 47, 3) := by decide +kernel
theorem dX8_knees_28 : decode cX8_knees 28 = .ok (.iload_n 1, 1) := by decide +kernel
theorem dX8_knees_29 : decode cX8_knees 29 = .ok (.invokevirtual 134, 3) := by decide +kernel
theorem dX8_knees_32 : decode cX8_knees 32 = .ok (.ifCond .ne 6, 3) := by decide +kernel
theorem dX8_knees_35 : decode cX8_knees 35 = .ok (.bipush (-2), 2) := by decide +kernel
theorem dX8_knees_37 : decode cX8_knees 37 = .ok (.ireturn, 1) := by decide +kernel
theorem dX8_knees_38 : decode cX8_knees 38 = .ok (.aload_n 0, 1) := by decide +kernel
theorem dX8_knees_39 : decode cX8_knees 39 = .ok (.getfield 69, 3) := by decide +kernel
theorem dX8_knees_42 : decode cX8_knees 42 = .ok (.aload_n 0, 1) := by decide +kernel
theorem dX8_knees_43 : decode cX8_knees 43 = .ok (.getfield 65, 3) := by decide +kernel
theorem dX8_knees_46 : decode cX8_knees 46 = .ok (.invokevirtual 221, 3) := by decide +kernel
theorem dX8_knees_49 : decode cX8_knees 49 = .ok (.iconst 0, 1) := by decide +kernel
theorem dX8_knees_50 : decode cX8_knees 50 = .ok (.istore_n 3, 1) := by decide +kernel
theorem dX8_knees_51 : decode cX8_knees 51 = .ok (.iconst 1, 1) := by decide +kernel
theorem dX8_knees_52 : decode cX8_knees 52 = .ok (.istore 4, 2) := by decide +kernel
theorem dX8_knees_54 : decode cX8_knees 54 = .ok (.iload 4, 2) := by decide +kernel
theorem dX8_knees_56 : decode cX8_knees 56 = .ok (.bipush 30, 2) := by decide +kernel
theorem dX8_knees_58 : decode cX8_knees 58 = .ok (.if_icmp .gt 54, 3) := by decide +kernel
theorem dX8_knees_61 : decode cX8_knees 61 = .ok (.aload_n 0, 1) := by decide +kernel
theorem dX8_knees_62 : decode cX8_knees 62 = .ok (.getfield 69, 3) := by decide +kernel
theorem dX8_knees_65 : decode cX8_knees 65 = .ok (.getfield 128, 3) := by decide +kernel
theorem dX8_knees_68 : decode cX8_knees 68 = .ok (.iload_n 1, 1) := by decide +kernel
theorem dX8_knees_69 : decode cX8_knees 69 = .ok (.iload 4, 2) := by decide +kernel
theorem dX8_knees_71 : decode cX8_knees 71 = .ok (.iastore, 1) := by decide +kernel
theorem dX8_knees_72 : decode cX8_knees 72 = .ok (.aload_n 0, 1) := by decide +kernel
theorem dX8_knees_73 : decode cX8_knees 73 = .ok (.getfield 33, 3) := by decide +kernel
theorem dX8_knees_76 : decode cX8_knees 76 = .ok (.aload_n 0, 1) := by decide +kernel
theorem dX8_knees_77 : decode cX8_knees 77 = .ok (.getfield 47, 3) := by decide +kernel
theorem dX8_knees_80 : decode cX8_knees 80 = .ok (.invokevirtual 176, 3) := by decide +kernel
theorem dX8_knees_83 : decode cX8_knees 83 = .ok (.aload_n 0, 1) := by decide +kernel
theorem dX8_knees_84 : decode cX8_knees 84 = .ok (.getfield 33, 3) := by decide +kernel
theorem dX8_knees_87 : decode cX8_knees 87 = .ok (.aload_n 0, 1) := by decide +kernel
theorem dX8_knees_88 : decode cX8_knees 88 = .ok (.getfield 69, 3) := by decide +kernel
theorem dX8_knees_91 : decode cX8_knees 91 = .ok (.iload_n 1, 1) := by decide +kernel
theorem dX8_knees_92 : decode cX8_knees 92 = .ok (.iload_n 2, 1) := by decide +kernel
theorem dX8_knees_93 : decode cX8_knees 93 = .ok (.invokevirtual 234, 3) := by decide +kernel
theorem dX8_knees_96 : decode cX8_knees 96 = .ok (.ifCond .eq 10, 3) := by decide +kernel
theorem dX8_knees_99 : decode cX8_knees 99 = .ok (.iload_n 3, 1) := by decide +kernel
theorem dX8_knees_100 : decode cX8_knees 100 = .ok (.iconst 1, 1) := by decide +kernel
theorem dX8_knees_101 : decode cX8_knees 101 = .ok (.iload 4, 2) := by decide +kernel
theorem dX8_knees_103 : decode cX8_knees 103 = .ok (.ishl, 1) := by decide +kernel
theorem dX8_knees_104 : decode cX8_knees 104 = .ok (.ior, 1) := by decide +kernel
theorem dX8_knees_105 : decode cX8_knees 105 = .ok (.istore_n 3, 1) := by decide +kernel
theorem dX8_knees_106 : decode cX8_knees 106 = .ok (.iinc 4 1, 3) := by decide +kernel
theorem dX8_knees_109 : decode cX8_knees 109 = .ok (.goto (-55), 3) := by decide +kernel
theorem dX8_knees_112 : decode cX8_knees 112 = .ok (.iload_n 3, 1) := by decide +kernel
theorem dX8_knees_113 : decode cX8_knees 113 = .ok (.ireturn, 1) := by decide +kernel
theorem dX8_shirkers_0 : decode cX8_shirkers 0 = .ok (.iload_n 1, 1) := by decide +kernel
theorem dX8_shirkers_1 : decode cX8_shirkers 1 = .ok (.ifCond .lt 18, 3) := by decide +kernel
theorem dX8_shirkers_4 : decode cX8_shirkers 4 = .ok (.iload_n 1, 1) := by decide +kernel
theorem dX8_shirkers_5 : decode cX8_shirkers 5 = .ok (.bipush 10, 2) := by decide +kernel
theorem dX8_shirkers_7 : decode cX8_shirkers 7 = .ok (.if_icmp .gt 12, 3) := by decide +kernel
theorem dX8_shirkers_10 : decode cX8_shirkers 10 = .ok (.iload_n 2, 1) := by decide +kernel
theorem dX8_shirkers_11 : decode cX8_shirkers 11 = .ok (.ifCond .lt 8, 3) := by decide +kernel
theorem dX8_shirkers_14 : decode cX8_shirkers 14 = .ok (.iload_n 2, 1) := by decide +kernel
theorem dX8_shirkers_15 : decode cX8_shirkers 15 = .ok (.iconst 1, 1) := by decide +kernel
theorem dX8_shirkers_16 : decode cX8_shirkers 16 = .ok (.if_icmp .le 5, 3) := by decide +kernel
theorem dX8_shirkers_19 : decode cX8_shirkers 19 = .ok (.iconst (-1), 1) := by decide +kernel
theorem dX8_shirkers_20 : decode cX8_shirkers 20 = .ok (.ireturn, 1) := by decide +kernel
theorem dX8_shirkers_21 : decode cX8_shirkers 21 = .ok (.iconst 0, 1) := by decide +kernel
theorem dX8_shirkers_22 : decode cX8_shirkers 22 = .ok (.istore_n 3, 1) := by decide +kernel
theorem dX8_shirkers_23 : decode cX8_shirkers 23 = .ok (.bipush 10, 2) := by decide +kernel
theorem dX8_shirkers_25 : decode cX8_shirkers 25 = .ok (.aload_n 0, 1) := by decide +kernel
theorem dX8_shirkers_26 : decode cX8_shirkers 26 = .ok (.getfield 47, 3) := by decide +kernel
theorem dX8_shirkers_29 : decode cX8_shirkers 29 = .ok (.getfield 198, 3) := by decide +kernel
theorem dX8_shirkers_32 : decode cX8_shirkers 32 = .ok (.invokestatic 238, 3) := by decide +kernel
theorem dX8_shirkers_35 : decode cX8_shirkers 35 = .ok (.invokestatic 243, 3) := by decide +kernel
theorem dX8_shirkers_38 : decode cX8_shirkers 38 = .ok (.istore 4, 2) := by decide +kernel
theorem dX8_shirkers_40 : decode cX8_shirkers 40 = .ok (.iconst 0, 1) := by decide +kernel
theorem dX8_shirkers_41 : decode cX8_shirkers 41 = .ok (.istore 5, 2) := by decide +kernel
theorem dX8_shirkers_43 : decode cX8_shirkers 43 = .ok (.iload 5, 2) := by decide +kernel
theorem dX8_shirkers_45 : decode cX8_shirkers 45 = .ok (.aload_n 0, 1) := by decide +kernel
theorem dX8_shirkers_46 : decode cX8_shirkers 46 = .ok (.getfield 65, 3) := by decide +kernel
theorem dX8_shirkers_49 : decode cX8_shirkers 49 = .ok (.invokevirtual 185, 3) := by decide +kernel
theorem dX8_shirkers_52 : decode cX8_shirkers 52 = .ok (.if_icmp .gt 56, 3) := by decide +kernel
theorem dX8_shirkers_55 : decode cX8_shirkers 55 = .ok (.iload 5, 2) := by decide +kernel
theorem dX8_shirkers_57 : decode cX8_shirkers 57 = .ok (.aload_n 0, 1) := by decide +kernel
theorem dX8_shirkers_58 : decode cX8_shirkers 58 = .ok (.getfield 47, 3) := by decide +kernel
theorem dX8_shirkers_61 : decode cX8_shirkers 61 = .ok (.getfield 198, 3) := by decide +kernel
theorem dX8_shirkers_64 : decode cX8_shirkers 64 = .ok (.invokestatic 201, 3) := by decide +kernel
theorem dX8_shirkers_67 : decode cX8_shirkers 67 = .ok (.ifCond .eq 13, 3) := by decide +kernel
theorem dX8_shirkers_70 : decode cX8_shirkers 70 = .ok (.aload_n 0, 1) := by decide +kernel
theorem dX8_shirkers_71 : decode cX8_shirkers 71 = .ok (.iload 5, 2) := by decide +kernel
theorem dX8_shirkers_73 : decode cX8_shirkers 73 = .ok (.iload_n 1, 1) := by decide +kernel
theorem dX8_shirkers_74 : decode cX8_shirkers 74 = .ok (.invokevirtual 246, 3) := by decide +kernel
theorem dX8_shirkers_77 : decode cX8_shirkers 77 = .ok (.goto 4, 3) := by decide +kernel
theorem dX8_shirkers_80 : decode cX8_shirkers 80 = .ok (.iconst 0, 1) := by decide +kernel
theorem dX8_shirkers_81 : decode cX8_shirkers 81 = .ok (.istore 6, 2) := by decide +kernel
theorem dX8_shirkers_83 : decode cX8_shirkers 83 = .ok (.iload 6, 2) := by decide +kernel
theorem dX8_shirkers_85 : decode cX8_shirkers 85 = .ok (.ifCond .le 17, 3) := by decide +kernel
theorem dX8_shirkers_88 : decode cX8_shirkers 88 = .ok (.aload_n 0, 1) := by decide +kernel
theorem dX8_shirkers_89 : decode cX8_shirkers 89 = .ok (.iload 5, 2) := by decide +kernel
theorem dX8_shirkers_91 : decode cX8_shirkers 91 = .ok (.invokevirtual 249, 3) := by decide +kernel
theorem dX8_shirkers_94 : decode cX8_shirkers 94 = .ok (.ifCond .eq 8, 3) := by decide +kernel
theorem dX8_shirkers_97 : decode cX8_shirkers 97 = .ok (.iload_n 3, 1) := by decide +kernel
theorem dX8_shirkers_98 : decode cX8_shirkers 98 = .ok (.iload 6, 2) := by decide +kernel
theorem dX8_shirkers_100 : decode cX8_shirkers 100 = .ok (.iadd, 1) := by decide +kernel
theorem dX8_shirkers_101 : decode cX8_shirkers 101 = .ok (.istore_n 3, 1) := by decide +kernel
theorem dX8_shirkers_102 : decode cX8_shirkers 102 = .ok (.iinc 5 1, 3) := by decide +kernel
theorem dX8_shirkers_105 : decode cX8_shirkers 105 = .ok (.goto (-62), 3) := by decide +kernel
theorem dX8_shirkers_108 : decode cX8_shirkers 108 = .ok (.iload_n 3, 1) := by decide +kernel
theorem dX8_shirkers_109 : decode cX8_shirkers 109 = .ok (.iload 4, 2) := by decide +kernel
theorem dX8_shirkers_111 : decode cX8_shirkers 111 = .ok (.invokestatic 252, 3) := by decide +kernel
theorem dX8_shirkers_114 : decode cX8_shirkers 114 = .ok (.istore 5, 2) := by decide +kernel
theorem dX8_shirkers_116 : decode cX8_shirkers 116 = .ok (.iload_n 2, 1) := by decide +kernel
theorem dX8_shirkers_117 : decode cX8_shirkers 117 = .ok (.ifCond .ne 7, 3) := by decide +kernel
theorem dX8_shirkers_120 : decode cX8_shirkers 120 = .ok (.iload_n 3, 1) := by decide +kernel
theorem dX8_shirkers_121 : decode cX8_shirkers 121 = .ok (.goto 5, 3) := by decide +kernel
theorem dX8_shirkers_124 : decode cX8_shirkers 124 = .ok (.iload 4, 2) := by decide +kernel
theorem dX8_shirkers_126 : decode cX8_shirkers 126 = .ok (.istore 6, 2) := by decide +kernel
theorem dX8_shirkers_128 : decode cX8_shirkers 128 = .ok (.iload 5, 2) := by decide +kernel
theorem dX8_shirkers_130 : decode cX8_shirkers 130 = .ok (.ifCond .le 11, 3) := by decide +kernel
theorem dX8_shirkers_133 : decode cX8_shirkers 133 = .ok (.iload 6, 2) := by decide +kernel
theorem dX8_shirkers_135 : decode cX8_shirkers 135 = .ok (.iload 5, 2) := by decide +kernel
theorem dX8_shirkers_137 : decode cX8_shirkers 137 = .ok (.idiv, 1) := by decide +kernel
theorem dX8_shirkers_138 : decode cX8_shirkers 138 = .ok (.goto 5, 3) := by decide +kernel
theorem dX8_shirkers_141 : decode cX8_shirkers 141 = .ok (.iload 6, 2) := by decide +kernel
theorem dX8_shirkers_143 : decode cX8_shirkers 143 = .ok (.ireturn, 1) := by decide +kernel
theorem dX8_night_0 : decode cX8_night 0 = .ok (.iload_n 1, 1) := by decide +kernel
theorem dX8_night_1 : decode cX8_night 1 = .ok (.ifCond .lt 30, 3) := by decide +kernel
theorem dX8_night_4 : decode cX8_night 4 = .ok (.iload_n 1, 1) := by decide +kernel
theorem dX8_night_5 : decode cX8_night 5 = .ok (.sipush 9999, 3) := by decide +kernel
theorem dX8_night_8 : decode cX8_night 8 = .ok (.if_icmp .gt 23, 3) := by decide +kernel
theorem dX8_night_11 : decode cX8_night 11 = .ok (.iload_n 2, 1) := by decide +kernel
theorem dX8_night_12 : decode cX8_night 12 = .ok (.iconst 1, 1) := by decide +kernel
theorem dX8_night_13 : decode cX8_night 13 = .ok (.if_icmp .lt 18, 3) := by decide +kernel
theorem dX8_night_16 : decode cX8_night 16 = .ok (.iload_n 2, 1) := by decide +kernel
theorem dX8_night_17 : decode cX8_night 17 = .ok (.bipush 60, 2) := by decide +kernel
theorem dX8_night_19 : decode cX8_night 19 = .ok (.if_icmp .gt 12, 3) := by decide +kernel
theorem dX8_night_22 : decode cX8_night 22 = .ok (.iload_n 3, 1) := by decide +kernel
theorem dX8_night_23 : decode cX8_night 23 = .ok (.ifCond .lt 8, 3) := by decide +kernel
theorem dX8_night_26 : decode cX8_night 26 = .ok (.iload_n 3, 1) := by decide +kernel
theorem dX8_night_27 : decode cX8_night 27 = .ok (.iconst 1, 1) := by decide +kernel
theorem dX8_night_28 : decode cX8_night 28 = .ok (.if_icmp .le 5, 3) := by decide +kernel
theorem dX8_night_31 : decode cX8_night 31 = .ok (.iconst (-1), 1) := by decide +kernel
theorem dX8_night_32 : decode cX8_night 32 = .ok (.ireturn, 1) := by decide +kernel
theorem dX8_night_33 : decode cX8_night 33 = .ok (.aload_n 0, 1) := by decide +kernel
theorem dX8_night_34 : decode cX8_night 34 = .ok (.getfield 33, 3) := by decide +kernel
theorem dX8_night_37 : decode cX8_night 37 = .ok (.aload_n 0, 1) := by decide +kernel
theorem dX8_night_38 : decode cX8_night 38 = .ok (.getfield 47, 3) := by decide +kernel
theorem dX8_night_41 : decode cX8_night 41 = .ok (.invokevirtual 176, 3) := by decide +kernel
theorem dX8_night_44 : decode cX8_night 44 = .ok (.iconst 0, 1) := by decide +kernel
theorem dX8_night_45 : decode cX8_night 45 = .ok (.istore 4, 2) := by decide +kernel
theorem dX8_night_47 : decode cX8_night 47 = .ok (.iload 4, 2) := by decide +kernel
theorem dX8_night_49 : decode cX8_night 49 = .ok (.iload_n 2, 1) := by decide +kernel
theorem dX8_night_50 : decode cX8_night 50 = .ok (.if_icmp .ge 45, 3) := by decide +kernel
theorem dX8_night_53 : decode cX8_night 53 = .ok (.aload_n 0, 1) := by decide +kernel
theorem dX8_night_54 : decode cX8_night 54 = .ok (.getfield 33, 3) := by decide +kernel
theorem dX8_night_57 : decode cX8_night 57 = .ok (.aload_n 0, 1) := by decide +kernel
theorem dX8_night_58 : decode cX8_night 58 = .ok (.getfield 65, 3) := by decide +kernel
theorem dX8_night_61 : decode cX8_night 61 = .ok (.iload_n 1, 1) := by decide +kernel
theorem dX8_night_62 : decode cX8_night 62 = .ok (.iload 4, 2) := by decide +kernel
theorem dX8_night_64 : decode cX8_night 64 = .ok (.invokestatic 255, 3) := by decide +kernel
theorem dX8_night_67 : decode cX8_night 67 = .ok (.invokevirtual 258, 3) := by decide +kernel
theorem dX8_night_70 : decode cX8_night 70 = .ok (.aload_n 0, 1) := by decide +kernel
theorem dX8_night_71 : decode cX8_night 71 = .ok (.getfield 26, 3) := by decide +kernel
theorem dX8_night_74 : decode cX8_night 74 = .ok (.aload_n 0, 1) := by decide +kernel
theorem dX8_night_75 : decode cX8_night 75 = .ok (.getfield 65, 3) := by decide +kernel
theorem dX8_night_78 : decode cX8_night 78 = .ok (.aload_n 0, 1) := by decide +kernel
theorem dX8_night_79 : decode cX8_night 79 = .ok (.getfield 33, 3) := by decide +kernel
theorem dX8_night_82 : decode cX8_night 82 = .ok (.getfield 262, 3) := by decide +kernel
theorem dX8_night_85 : decode cX8_night 85 = .ok (.invokevirtual 147, 3) := by decide +kernel
theorem dX8_night_88 : decode cX8_night 88 = .ok (.pop, 1) := by decide +kernel
theorem dX8_night_89 : decode cX8_night 89 = .ok (.iinc 4 1, 3) := by decide +kernel
theorem dX8_night_92 : decode cX8_night 92 = .ok (.goto (-45), 3) := by decide +kernel
theorem dX8_night_95 : decode cX8_night 95 = .ok (.iload_n 3, 1) := by decide +kernel
theorem dX8_night_96 : decode cX8_night 96 = .ok (.ifCond .ne 16, 3) := by decide +kernel
theorem dX8_night_99 : decode cX8_night 99 = .ok (.aload_n 0, 1) := by decide +kernel
theorem dX8_night_100 : decode cX8_night 100 = .ok (.getfield 33, 3) := by decide +kernel
theorem dX8_night_103 : decode cX8_night 103 = .ok (.getfield 262, 3) := by decide +kernel
theorem dX8_night_106 : decode cX8_night 106 = .ok (.getfield 265, 3) := by decide +kernel
theorem dX8_night_109 : decode cX8_night 109 = .ok (.goto 13, 3) := by decide +kernel
theorem dX8_night_112 : decode cX8_night 112 = .ok (.aload_n 0, 1) := by decide +kernel
theorem dX8_night_113 : decode cX8_night 113 = .ok (.getfield 33, 3) := by decide +kernel
theorem dX8_night_116 : decode cX8_night 116 = .ok (.getfield 262, 3) := by decide +kernel
theorem dX8_night_119 : decode cX8_night 119 = .ok (.getfield 198, 3) := by decide +kernel
theorem dX8_night_122 : decode cX8_night 122 = .ok (.invokestatic 238, 3) := by decide +kernel
theorem dX8_night_125 : decode cX8_night 125 = .ok (.ireturn, 1) := by decide +kernel
theorem dX8_keep_0 : decode cX8_keep 0 = .ok (.aload_n 0, 1) := by decide +kernel
theorem dX8_keep_1 : decode cX8_keep 1 = .ok (.getfield 268, 3) := by decide +kernel
theorem dX8_keep_4 : decode cX8_keep 4 = .ok (.iconst 2, 1) := by decide +kernel
theorem dX8_keep_5 : decode cX8_keep 5 = .ok (.if_icmp .lt 6, 3) := by decide +kernel
theorem dX8_keep_8 : decode cX8_keep 8 = .ok (.bipush (-3), 2) := by decide +kernel
theorem dX8_keep_10 : decode cX8_keep 10 = .ok (.ireturn, 1) := by decide +kernel
theorem dX8_keep_11 : decode cX8_keep 11 = .ok (.aload_n 0, 1) := by decide +kernel
theorem dX8_keep_12 : decode cX8_keep 12 = .ok (.getfield 58, 3) := by decide +kernel
theorem dX8_keep_15 : decode cX8_keep 15 = .ok (.aload_n 0, 1) := by decide +kernel
theorem dX8_keep_16 : decode cX8_keep 16 = .ok (.getfield 268, 3) := by decide +kernel
theorem dX8_keep_19 : decode cX8_keep 19 = .ok (.aaload, 1) := by decide +kernel
theorem dX8_keep_20 : decode cX8_keep 20 = .ok (.aload_n 0, 1) := by decide +kernel
theorem dX8_keep_21 : decode cX8_keep 21 = .ok (.getfield 47, 3) := by decide +kernel
theorem dX8_keep_24 : decode cX8_keep 24 = .ok (.invokevirtual 271, 3) := by decide +kernel
theorem dX8_keep_27 : decode cX8_keep 27 = .ok (.aload_n 0, 1) := by decide +kernel
theorem dX8_keep_28 : decode cX8_keep 28 = .ok (.dup, 1) := by decide +kernel
theorem dX8_keep_29 : decode cX8_keep 29 = .ok (.getfield 268, 3) := by decide +kernel
theorem dX8_keep_32 : decode cX8_keep 32 = .ok (.iconst 1, 1) := by decide +kernel
theorem dX8_keep_33 : decode cX8_keep 33 = .ok (.iadd, 1) := by decide +kernel
theorem dX8_keep_34 : decode cX8_keep 34 = .ok (.putfield 268, 3) := by decide +kernel
theorem dX8_keep_37 : decode cX8_keep 37 = .ok (.aload_n 0, 1) := by decide +kernel
theorem dX8_keep_38 : decode cX8_keep 38 = .ok (.getfield 268, 3) := by decide +kernel
theorem dX8_keep_41 : decode cX8_keep 41 = .ok (.ireturn, 1) := by decide +kernel
theorem dX8_back_0 : decode cX8_back 0 = .ok (.aload_n 0, 1) := by decide +kernel
theorem dX8_back_1 : decode cX8_back 1 = .ok (.getfield 268, 3) := by decide +kernel
theorem dX8_back_4 : decode cX8_back 4 = .ok (.ifCond .gt 6, 3) := by decide +kernel
theorem dX8_back_7 : decode cX8_back 7 = .ok (.bipush (-2), 2) := by decide +kernel
theorem dX8_back_9 : decode cX8_back 9 = .ok (.ireturn, 1) := by decide +kernel
theorem dX8_back_10 : decode cX8_back 10 = .ok (.aload_n 0, 1) := by decide +kernel
theorem dX8_back_11 : decode cX8_back 11 = .ok (.dup, 1) := by decide +kernel
theorem dX8_back_12 : decode cX8_back 12 = .ok (.getfield 268, 3) := by decide +kernel
theorem dX8_back_15 : decode cX8_back 15 = .ok (.iconst 1, 1) := by decide +kernel
theorem dX8_back_16 : decode cX8_back 16 = .ok (.isub, 1) := by decide +kernel
theorem dX8_back_17 : decode cX8_back 17 = .ok (.putfield 268, 3) := by decide +kernel
theorem dX8_back_20 : decode cX8_back 20 = .ok (.aload_n 0, 1) := by decide +kernel
theorem dX8_back_21 : decode cX8_back 21 = .ok (.getfield 47, 3) := by decide +kernel
theorem dX8_back_24 : decode cX8_back 24 = .ok (.aload_n 0, 1) := by decide +kernel
theorem dX8_back_25 : decode cX8_back 25 = .ok (.getfield 58, 3) := by decide +kernel
theorem dX8_back_28 : decode cX8_back 28 = .ok (.aload_n 0, 1) := by decide +kernel
theorem dX8_back_29 : decode cX8_back 29 = .ok (.getfield 268, 3) := by decide +kernel
theorem dX8_back_32 : decode cX8_back 32 = .ok (.aaload, 1) := by decide +kernel
theorem dX8_back_33 : decode cX8_back 33 = .ok (.invokevirtual 271, 3) := by decide +kernel
theorem dX8_back_36 : decode cX8_back 36 = .ok (.aload_n 0, 1) := by decide +kernel
theorem dX8_back_37 : decode cX8_back 37 = .ok (.getfield 54, 3) := by decide +kernel
theorem dX8_back_40 : decode cX8_back 40 = .ok (.invokevirtual 273, 3) := by decide +kernel
theorem dX8_back_43 : decode cX8_back 43 = .ok (.aload_n 0, 1) := by decide +kernel
theorem dX8_back_44 : decode cX8_back 44 = .ok (.getfield 268, 3) := by decide +kernel
theorem dX8_back_47 : decode cX8_back 47 = .ok (.ireturn, 1) := by decide +kernel
theorem dX8_count_0 : decode cX8_count 0 = .ok (.iload_n 1, 1) := by decide +kernel
theorem dX8_count_1 : decode cX8_count 1 = .ok (.tableswitch 137 0 8 #[51, 59, 67, 75, 86, 105, 116, 124, 129], 51) := by decide +kernel
theorem dX8_count_52 : decode cX8_count 52 = .ok (.aload_n 0, 1) := by decide +kernel
theorem dX8_count_53 : decode cX8_count 53 = .ok (.getfield 65, 3) := by decide +kernel
theorem dX8_count_56 : decode cX8_count 56 = .ok (.getfield 215, 3) := by decide +kernel
theorem dX8_count_59 : decode cX8_count 59 = .ok (.ireturn, 1) := by decide +kernel
theorem dX8_count_60 : decode cX8_count 60 = .ok (.aload_n 0, 1) := by decide +kernel
theorem dX8_count_61 : decode cX8_count 61 = .ok (.getfield 65, 3) := by decide +kernel
theorem dX8_count_64 : decode cX8_count 64 = .ok (.getfield 276, 3) := by decide +kernel
theorem dX8_count_67 : decode cX8_count 67 = .ok (.ireturn, 1) := by decide +kernel
theorem dX8_count_68 : decode cX8_count 68 = .ok (.aload_n 0, 1) := by decide +kernel
theorem dX8_count_69 : decode cX8_count 69 = .ok (.getfield 47, 3) := by decide +kernel
theorem dX8_count_72 : decode cX8_count 72 = .ok (.getfield 137, 3) := by decide +kernel
theorem dX8_count_75 : decode cX8_count 75 = .ok (.ireturn, 1) := by decide +kernel
theorem dX8_count_76 : decode cX8_count 76 = .ok (.aload_n 0, 1) := by decide +kernel
theorem dX8_count_77 : decode cX8_count 77 = .ok (.getfield 47, 3) := by decide +kernel
theorem dX8_count_80 : decode cX8_count 80 = .ok (.getfield 198, 3) := by decide +kernel
theorem dX8_count_83 : decode cX8_count 83 = .ok (.invokestatic 238, 3) := by decide +kernel
theorem dX8_count_86 : decode cX8_count 86 = .ok (.ireturn, 1) := by decide +kernel
theorem dX8_count_87 : decode cX8_count 87 = .ok (.aload_n 0, 1) := by decide +kernel
theorem dX8_count_88 : decode cX8_count 88 = .ok (.getfield 26, 3) := by decide +kernel
theorem dX8_count_91 : decode cX8_count 91 = .ok (.aload_n 0, 1) := by decide +kernel
theorem dX8_count_92 : decode cX8_count 92 = .ok (.getfield 65, 3) := by decide +kernel
theorem dX8_count_95 : decode cX8_count 95 = .ok (.aload_n 0, 1) := by decide +kernel
theorem dX8_count_96 : decode cX8_count 96 = .ok (.getfield 47, 3) := by decide +kernel
theorem dX8_count_99 : decode cX8_count 99 = .ok (.invokevirtual 279, 3) := by decide +kernel
theorem dX8_count_102 : decode cX8_count 102 = .ok (.invokestatic 238, 3) := by decide +kernel
theorem dX8_count_105 : decode cX8_count 105 = .ok (.ireturn, 1) := by decide +kernel
theorem dX8_count_106 : decode cX8_count 106 = .ok (.aload_n 0, 1) := by decide +kernel
theorem dX8_count_107 : decode cX8_count 107 = .ok (.getfield 47, 3) := by decide +kernel
theorem dX8_count_110 : decode cX8_count 110 = .ok (.getfield 265, 3) := by decide +kernel
theorem dX8_count_113 : decode cX8_count 113 = .ok (.invokestatic 238, 3) := by decide +kernel
theorem dX8_count_116 : decode cX8_count 116 = .ok (.ireturn, 1) := by decide +kernel
theorem dX8_count_117 : decode cX8_count 117 = .ok (.aload_n 0, 1) := by decide +kernel
theorem dX8_count_118 : decode cX8_count 118 = .ok (.getfield 54, 3) := by decide +kernel
theorem dX8_count_121 : decode cX8_count 121 = .ok (.getfield 173, 3) := by decide +kernel
theorem dX8_count_124 : decode cX8_count 124 = .ok (.ireturn, 1) := by decide +kernel
theorem dX8_count_125 : decode cX8_count 125 = .ok (.aload_n 0, 1) := by decide +kernel
theorem dX8_count_126 : decode cX8_count 126 = .ok (.getfield 268, 3) := by decide +kernel
theorem dX8_count_129 : decode cX8_count 129 = .ok (.ireturn, 1) := by decide +kernel
theorem dX8_count_130 : decode cX8_count 130 = .ok (.aload_n 0, 1) := by decide +kernel
theorem dX8_count_131 : decode cX8_count 131 = .ok (.getfield 10, 3) := by decide +kernel
theorem dX8_count_134 : decode cX8_count 134 = .ok (.getfield 91, 3) := by decide +kernel
theorem dX8_count_137 : decode cX8_count 137 = .ok (.ireturn, 1) := by decide +kernel
theorem dX8_count_138 : decode cX8_count 138 = .ok (.iconst (-1), 1) := by decide +kernel
theorem dX8_count_139 : decode cX8_count 139 = .ok (.ireturn, 1) := by decide +kernel
theorem dX8_layText_0 : decode cX8_layText 0 = .ok (.aload_n 0, 1) := by decide +kernel
theorem dX8_layText_1 : decode cX8_layText 1 = .ok (.getfield 19, 3) := by decide +kernel
theorem dX8_layText_4 : decode cX8_layText 4 = .ok (.aload_n 0, 1) := by decide +kernel
theorem dX8_layText_5 : decode cX8_layText 5 = .ok (.getfield 10, 3) := by decide +kernel
theorem dX8_layText_8 : decode cX8_layText 8 = .ok (.aload_n 0, 1) := by decide +kernel
theorem dX8_layText_9 : decode cX8_layText 9 = .ok (.getfield 69, 3) := by decide +kernel
theorem dX8_layText_12 : decode cX8_layText 12 = .ok (.invokevirtual 94, 3) := by decide +kernel
theorem dX8_layText_15 : decode cX8_layText 15 = .ok (.bipush (-4), 2) := by decide +kernel
theorem dX8_layText_17 : decode cX8_layText 17 = .ok (.if_icmp .ne 13, 3) := by decide +kernel
theorem dX8_layText_20 : decode cX8_layText 20 = .ok (.aload_n 0, 1) := by decide +kernel
theorem dX8_layText_21 : decode cX8_layText 21 = .ok (.getfield 69, 3) := by decide +kernel
theorem dX8_layText_24 : decode cX8_layText 24 = .ok (.getfield 215, 3) := by decide +kernel
theorem dX8_layText_27 : decode cX8_layText 27 = .ok (.ifCond .ne 6, 3) := by decide +kernel
theorem dX8_layText_30 : decode cX8_layText 30 = .ok (.bipush (-2), 2) := by decide +kernel
theorem dX8_layText_32 : decode cX8_layText 32 = .ok (.ireturn, 1) := by decide +kernel
theorem dX8_layText_33 : decode cX8_layText 33 = .ok (.aload_n 0, 1) := by decide +kernel
theorem dX8_layText_34 : decode cX8_layText 34 = .ok (.getfield 65, 3) := by decide +kernel
theorem dX8_layText_37 : decode cX8_layText 37 = .ok (.astore_n 1, 1) := by decide +kernel
theorem dX8_layText_38 : decode cX8_layText 38 = .ok (.aload_n 0, 1) := by decide +kernel
theorem dX8_layText_39 : decode cX8_layText 39 = .ok (.aload_n 0, 1) := by decide +kernel
theorem dX8_layText_40 : decode cX8_layText 40 = .ok (.getfield 69, 3) := by decide +kernel
theorem dX8_layText_43 : decode cX8_layText 43 = .ok (.putfield 65, 3) := by decide +kernel
theorem dX8_layText_46 : decode cX8_layText 46 = .ok (.aload_n 0, 1) := by decide +kernel
theorem dX8_layText_47 : decode cX8_layText 47 = .ok (.aload_n 1, 1) := by decide +kernel
theorem dX8_layText_48 : decode cX8_layText 48 = .ok (.putfield 69, 3) := by decide +kernel
theorem dX8_layText_51 : decode cX8_layText 51 = .ok (.aload_n 0, 1) := by decide +kernel
theorem dX8_layText_52 : decode cX8_layText 52 = .ok (.getfield 47, 3) := by decide +kernel
theorem dX8_layText_55 : decode cX8_layText 55 = .ok (.aload_n 0, 1) := by decide +kernel
theorem dX8_layText_56 : decode cX8_layText 56 = .ok (.getfield 65, 3) := by decide +kernel
theorem dX8_layText_59 : decode cX8_layText 59 = .ok (.invokevirtual 282, 3) := by decide +kernel
theorem dX8_layText_62 : decode cX8_layText 62 = .ok (.aload_n 0, 1) := by decide +kernel
theorem dX8_layText_63 : decode cX8_layText 63 = .ok (.getfield 54, 3) := by decide +kernel
theorem dX8_layText_66 : decode cX8_layText 66 = .ok (.invokevirtual 273, 3) := by decide +kernel
theorem dX8_layText_69 : decode cX8_layText 69 = .ok (.aload_n 0, 1) := by decide +kernel
theorem dX8_layText_70 : decode cX8_layText 70 = .ok (.iconst 0, 1) := by decide +kernel
theorem dX8_layText_71 : decode cX8_layText 71 = .ok (.putfield 268, 3) := by decide +kernel
theorem dX8_layText_74 : decode cX8_layText 74 = .ok (.aload_n 0, 1) := by decide +kernel
theorem dX8_layText_75 : decode cX8_layText 75 = .ok (.getfield 65, 3) := by decide +kernel
theorem dX8_layText_78 : decode cX8_layText 78 = .ok (.getfield 215, 3) := by decide +kernel
theorem dX8_layText_81 : decode cX8_layText 81 = .ok (.ireturn, 1) := by decide +kernel
theorem dX8_standingBay_0 : decode cX8_standingBay 0 = .ok (.aload_n 0, 1) := by decide +kernel
theorem dX8_standingBay_1 : decode cX8_standingBay 1 = .ok (.getfield 26, 3) := by decide +kernel
theorem dX8_standingBay_4 : decode cX8_standingBay 4 = .ok (.aload_n 0, 1) := by decide +kernel
theorem dX8_standingBay_5 : decode cX8_standingBay 5 = .ok (.getfield 65, 3) := by decide +kernel
theorem dX8_standingBay_8 : decode cX8_standingBay 8 = .ok (.aload_n 0, 1) := by decide +kernel
theorem dX8_standingBay_9 : decode cX8_standingBay 9 = .ok (.getfield 47, 3) := by decide +kernel
theorem dX8_standingBay_12 : decode cX8_standingBay 12 = .ok (.invokevirtual 279, 3) := by decide +kernel
theorem dX8_standingBay_15 : decode cX8_standingBay 15 = .ok (.istore_n 3, 1) := by decide +kernel
theorem dX8_standingBay_16 : decode cX8_standingBay 16 = .ok (.iload_n 2, 1) := by decide +kernel
theorem dX8_standingBay_17 : decode cX8_standingBay 17 = .ok (.tableswitch 61 2 4 #[27, 37, 47], 27) := by decide +kernel
theorem dX8_standingBay_44 : decode cX8_standingBay 44 = .ok (.aload_n 0, 1) := by decide +kernel
theorem dX8_standingBay_45 : decode cX8_standingBay 45 = .ok (.getfield 26, 3) := by decide +kernel
theorem dX8_standingBay_48 : decode cX8_standingBay 48 = .ok (.getfield 285, 3) := by decide +kernel
theorem dX8_standingBay_51 : decode cX8_standingBay 51 = .ok (.iload_n 1, 1) := by decide +kernel
theorem dX8_standingBay_52 : decode cX8_standingBay 52 = .ok (.iaload, 1) := by decide +kernel
theorem dX8_standingBay_53 : decode cX8_standingBay 53 = .ok (.ireturn, 1) := by decide +kernel
theorem dX8_standingBay_54 : decode cX8_standingBay 54 = .ok (.aload_n 0, 1) := by decide +kernel
theorem dX8_standingBay_55 : decode cX8_standingBay 55 = .ok (.getfield 26, 3) := by decide +kernel
theorem dX8_standingBay_58 : decode cX8_standingBay 58 = .ok (.getfield 288, 3) := by decide +kernel
theorem dX8_standingBay_61 : decode cX8_standingBay 61 = .ok (.iload_n 1, 1) := by decide +kernel
theorem dX8_standingBay_62 : decode cX8_standingBay 62 = .ok (.iaload, 1) := by decide +kernel
theorem dX8_standingBay_63 : decode cX8_standingBay 63 = .ok (.ireturn, 1) := by decide +kernel
theorem dX8_standingBay_64 : decode cX8_standingBay 64 = .ok (.iload_n 3, 1) := by decide +kernel
theorem dX8_standingBay_65 : decode cX8_standingBay 65 = .ok (.iload_n 1, 1) := by decide +kernel
theorem dX8_standingBay_66 : decode cX8_standingBay 66 = .ok (.invokestatic 291, 3) := by decide +kernel
theorem dX8_standingBay_69 : decode cX8_standingBay 69 = .ok (.ifCond .eq 7, 3) := by decide +kernel
theorem dX8_standingBay_72 : decode cX8_standingBay 72 = .ok (.iconst 1, 1) := by decide +kernel
theorem dX8_standingBay_73 : decode cX8_standingBay 73 = .ok (.goto 4, 3) := by decide +kernel
theorem dX8_standingBay_76 : decode cX8_standingBay 76 = .ok (.iconst 0, 1) := by decide +kernel
theorem dX8_standingBay_77 : decode cX8_standingBay 77 = .ok (.ireturn, 1) := by decide +kernel
theorem dX8_standingBay_78 : decode cX8_standingBay 78 = .ok (.aload_n 0, 1) := by decide +kernel
theorem dX8_standingBay_79 : decode cX8_standingBay 79 = .ok (.getfield 47, 3) := by decide +kernel
theorem dX8_standingBay_82 : decode cX8_standingBay 82 = .ok (.getfield 294, 3) := by decide +kernel
theorem dX8_standingBay_85 : decode cX8_standingBay 85 = .ok (.iload_n 1, 1) := by decide +kernel
theorem dX8_standingBay_86 : decode cX8_standingBay 86 = .ok (.iaload, 1) := by decide +kernel
theorem dX8_standingBay_87 : decode cX8_standingBay 87 = .ok (.ireturn, 1) := by decide +kernel
theorem dX8_wouldHold_0 : decode cX8_wouldHold 0 = .ok (.aload_n 0, 1) := by decide +kernel
theorem dX8_wouldHold_1 : decode cX8_wouldHold 1 = .ok (.getfield 33, 3) := by decide +kernel
theorem dX8_wouldHold_4 : decode cX8_wouldHold 4 = .ok (.aload_n 0, 1) := by decide +kernel
theorem dX8_wouldHold_5 : decode cX8_wouldHold 5 = .ok (.getfield 47, 3) := by decide +kernel
theorem dX8_wouldHold_8 : decode cX8_wouldHold 8 = .ok (.invokevirtual 176, 3) := by decide +kernel
theorem dX8_wouldHold_11 : decode cX8_wouldHold 11 = .ok (.aload_n 0, 1) := by decide +kernel
theorem dX8_wouldHold_12 : decode cX8_wouldHold 12 = .ok (.getfield 33, 3) := by decide +kernel
theorem dX8_wouldHold_15 : decode cX8_wouldHold 15 = .ok (.getfield 262, 3) := by decide +kernel
theorem dX8_wouldHold_18 : decode cX8_wouldHold 18 = .ok (.iload_n 1, 1) := by decide +kernel
theorem dX8_wouldHold_19 : decode cX8_wouldHold 19 = .ok (.putfield 198, 3) := by decide +kernel
theorem dX8_wouldHold_22 : decode cX8_wouldHold 22 = .ok (.aload_n 0, 1) := by decide +kernel
theorem dX8_wouldHold_23 : decode cX8_wouldHold 23 = .ok (.getfield 33, 3) := by decide +kernel
theorem dX8_wouldHold_26 : decode cX8_wouldHold 26 = .ok (.aload_n 0, 1) := by decide +kernel
theorem dX8_wouldHold_27 : decode cX8_wouldHold 27 = .ok (.getfield 65, 3) := by decide +kernel
theorem dX8_wouldHold_30 : decode cX8_wouldHold 30 = .ok (.bipush 12, 2) := by decide +kernel
theorem dX8_wouldHold_32 : decode cX8_wouldHold 32 = .ok (.invokevirtual 179, 3) := by decide +kernel
theorem dX8_wouldHold_35 : decode cX8_wouldHold 35 = .ok (.bipush (-4), 2) := by decide +kernel
theorem dX8_wouldHold_37 : decode cX8_wouldHold 37 = .ok (.if_icmp .ne 7, 3) := by decide +kernel
theorem dX8_wouldHold_40 : decode cX8_wouldHold 40 = .ok (.iconst 1, 1) := by decide +kernel
theorem dX8_wouldHold_41 : decode cX8_wouldHold 41 = .ok (.goto 4, 3) := by decide +kernel
theorem dX8_wouldHold_44 : decode cX8_wouldHold 44 = .ok (.iconst 0, 1) := by decide +kernel
theorem dX8_wouldHold_45 : decode cX8_wouldHold 45 = .ok (.ireturn, 1) := by decide +kernel
theorem dX8_wouldBreak_0 : decode cX8_wouldBreak 0 = .ok (.aload_n 0, 1) := by decide +kernel
theorem dX8_wouldBreak_1 : decode cX8_wouldBreak 1 = .ok (.getfield 33, 3) := by decide +kernel
theorem dX8_wouldBreak_4 : decode cX8_wouldBreak 4 = .ok (.aload_n 0, 1) := by decide +kernel
theorem dX8_wouldBreak_5 : decode cX8_wouldBreak 5 = .ok (.getfield 47, 3) := by decide +kernel
theorem dX8_wouldBreak_8 : decode cX8_wouldBreak 8 = .ok (.invokevirtual 176, 3) := by decide +kernel
theorem dX8_wouldBreak_11 : decode cX8_wouldBreak 11 = .ok (.aload_n 0, 1) := by decide +kernel
theorem dX8_wouldBreak_12 : decode cX8_wouldBreak 12 = .ok (.getfield 33, 3) := by decide +kernel
theorem dX8_wouldBreak_15 : decode cX8_wouldBreak 15 = .ok (.getfield 262, 3) := by decide +kernel
theorem dX8_wouldBreak_18 : decode cX8_wouldBreak 18 = .ok (.aload_n 0, 1) := by decide +kernel
theorem dX8_wouldBreak_19 : decode cX8_wouldBreak 19 = .ok (.getfield 47, 3) := by decide +kernel
theorem dX8_wouldBreak_22 : decode cX8_wouldBreak 22 = .ok (.getfield 198, 3) := by decide +kernel
theorem dX8_wouldBreak_25 : decode cX8_wouldBreak 25 = .ok (.iload_n 1, 1) := by decide +kernel
theorem dX8_wouldBreak_26 : decode cX8_wouldBreak 26 = .ok (.iconst (-1), 1) := by decide +kernel
theorem dX8_wouldBreak_27 : decode cX8_wouldBreak 27 = .ok (.ixor, 1) := by decide +kernel
theorem dX8_wouldBreak_28 : decode cX8_wouldBreak 28 = .ok (.iand, 1) := by decide +kernel
theorem dX8_wouldBreak_29 : decode cX8_wouldBreak 29 = .ok (.putfield 198, 3) := by decide +kernel
theorem dX8_wouldBreak_32 : decode cX8_wouldBreak 32 = .ok (.aload_n 0, 1) := by decide +kernel
theorem dX8_wouldBreak_33 : decode cX8_wouldBreak 33 = .ok (.getfield 33, 3) := by decide +kernel
theorem dX8_wouldBreak_36 : decode cX8_wouldBreak 36 = .ok (.aload_n 0, 1) := by decide +kernel
theorem dX8_wouldBreak_37 : decode cX8_wouldBreak 37 = .ok (.getfield 65, 3) := by decide +kernel
theorem dX8_wouldBreak_40 : decode cX8_wouldBreak 40 = .ok (.bipush 24, 2) := by decide +kernel
theorem dX8_wouldBreak_42 : decode cX8_wouldBreak 42 = .ok (.invokevirtual 179, 3) := by decide +kernel
theorem dX8_wouldBreak_45 : decode cX8_wouldBreak 45 = .ok (.bipush (-4), 2) := by decide +kernel
theorem dX8_wouldBreak_47 : decode cX8_wouldBreak 47 = .ok (.if_icmp .eq 7, 3) := by decide +kernel
theorem dX8_wouldBreak_50 : decode cX8_wouldBreak 50 = .ok (.iconst 1, 1) := by decide +kernel
theorem dX8_wouldBreak_51 : decode cX8_wouldBreak 51 = .ok (.goto 4, 3) := by decide +kernel
theorem dX8_wouldBreak_54 : decode cX8_wouldBreak 54 = .ok (.iconst 0, 1) := by decide +kernel
theorem dX8_wouldBreak_55 : decode cX8_wouldBreak 55 = .ok (.ireturn, 1) := by decide +kernel
theorem dX8_wouldBeHeld_0 : decode cX8_wouldBeHeld 0 = .ok (.aload_n 0, 1) := by decide +kernel
theorem dX8_wouldBeHeld_1 : decode cX8_wouldBeHeld 1 = .ok (.getfield 33, 3) := by decide +kernel
theorem dX8_wouldBeHeld_4 : decode cX8_wouldBeHeld 4 = .ok (.aload_n 0, 1) := by decide +kernel
theorem dX8_wouldBeHeld_5 : decode cX8_wouldBeHeld 5 = .ok (.getfield 47, 3) := by decide +kernel
theorem dX8_wouldBeHeld_8 : decode cX8_wouldBeHeld 8 = .ok (.invokevirtual 176, 3) := by decide +kernel
theorem dX8_wouldBeHeld_11 : decode cX8_wouldBeHeld 11 = .ok (.aload_n 0, 1) := by decide +kernel
theorem dX8_wouldBeHeld_12 : decode cX8_wouldBeHeld 12 = .ok (.getfield 33, 3) := by decide +kernel
theorem dX8_wouldBeHeld_15 : decode cX8_wouldBeHeld 15 = .ok (.getfield 262, 3) := by decide +kernel
theorem dX8_wouldBeHeld_18 : decode cX8_wouldBeHeld 18 = .ok (.iload_n 1, 1) := by decide +kernel
theorem dX8_wouldBeHeld_19 : decode cX8_wouldBeHeld 19 = .ok (.putfield 198, 3) := by decide +kernel
theorem dX8_wouldBeHeld_22 : decode cX8_wouldBeHeld 22 = .ok (.aload_n 0, 1) := by decide +kernel
theorem dX8_wouldBeHeld_23 : decode cX8_wouldBeHeld 23 = .ok (.getfield 26, 3) := by decide +kernel
theorem dX8_wouldBeHeld_26 : decode cX8_wouldBeHeld 26 = .ok (.aload_n 0, 1) := by decide +kernel
theorem dX8_wouldBeHeld_27 : decode cX8_wouldBeHeld 27 = .ok (.getfield 65, 3) := by decide +kernel
theorem dX8_wouldBeHeld_30 : decode cX8_wouldBeHeld 30 = .ok (.aload_n 0, 1) := by decide +kernel
theorem dX8_wouldBeHeld_31 : decode cX8_wouldBeHeld 31 = .ok (.getfield 33, 3) := by decide +kernel
theorem dX8_wouldBeHeld_34 : decode cX8_wouldBeHeld 34 = .ok (.getfield 262, 3) := by decide +kernel
theorem dX8_wouldBeHeld_37 : decode cX8_wouldBeHeld 37 = .ok (.invokevirtual 279, 3) := by decide +kernel
theorem dX8_wouldBeHeld_40 : decode cX8_wouldBeHeld 40 = .ok (.ireturn, 1) := by decide +kernel
theorem dX8_standsWithAt_0 : decode cX8_standsWithAt 0 = .ok (.aload_n 0, 1) := by decide +kernel
theorem dX8_standsWithAt_1 : decode cX8_standsWithAt 1 = .ok (.getfield 33, 3) := by decide +kernel
theorem dX8_standsWithAt_4 : decode cX8_standsWithAt 4 = .ok (.aload_n 0, 1) := by decide +kernel
theorem dX8_standsWithAt_5 : decode cX8_standsWithAt 5 = .ok (.getfield 47, 3) := by decide +kernel
theorem dX8_standsWithAt_8 : decode cX8_standsWithAt 8 = .ok (.invokevirtual 176, 3) := by decide +kernel
theorem dX8_standsWithAt_11 : decode cX8_standsWithAt 11 = .ok (.aload_n 0, 1) := by decide +kernel
theorem dX8_standsWithAt_12 : decode cX8_standsWithAt 12 = .ok (.getfield 33, 3) := by decide +kernel
theorem dX8_standsWithAt_15 : decode cX8_standsWithAt 15 = .ok (.getfield 262, 3) := by decide +kernel
theorem dX8_standsWithAt_18 : decode cX8_standsWithAt 18 = .ok (.getfield 125, 3) := by decide +kernel
theorem dX8_standsWithAt_21 : decode cX8_standsWithAt 21 = .ok (.iload_n 1, 1) := by decide +kernel
theorem dX8_standsWithAt_22 : decode cX8_standsWithAt 22 = .ok (.iload_n 2, 1) := by decide +kernel
theorem dX8_standsWithAt_23 : decode cX8_standsWithAt 23 = .ok (.iastore, 1) := by decide +kernel
theorem dX8_standsWithAt_24 : decode cX8_standsWithAt 24 = .ok (.aload_n 0, 1) := by decide +kernel
theorem dX8_standsWithAt_25 : decode cX8_standsWithAt 25 = .ok (.getfield 33, 3) := by decide +kernel
theorem dX8_standsWithAt_28 : decode cX8_standsWithAt 28 = .ok (.getfield 262, 3) := by decide +kernel
theorem dX8_standsWithAt_31 : decode cX8_standsWithAt 31 = .ok (.iload_n 1, 1) := by decide +kernel
theorem dX8_standsWithAt_32 : decode cX8_standsWithAt 32 = .ok (.invokevirtual 162, 3) := by decide +kernel
theorem dX8_standsWithAt_35 : decode cX8_standsWithAt 35 = .ok (.aload_n 0, 1) := by decide +kernel
theorem dX8_standsWithAt_36 : decode cX8_standsWithAt 36 = .ok (.getfield 33, 3) := by decide +kernel
theorem dX8_standsWithAt_39 : decode cX8_standsWithAt 39 = .ok (.aload_n 0, 1) := by decide +kernel
theorem dX8_standsWithAt_40 : decode cX8_standsWithAt 40 = .ok (.getfield 65, 3) := by decide +kernel
theorem dX8_standsWithAt_43 : decode cX8_standsWithAt 43 = .ok (.invokevirtual 297, 3) := by decide +kernel
theorem dX8_standsWithAt_46 : decode cX8_standsWithAt 46 = .ok (.ireturn, 1) := by decide +kernel
theorem dX8_standsWithStrength_0 : decode cX8_standsWithStrength 0 = .ok (.aload_n 0, 1) := by decide +kernel
theorem dX8_standsWithStrength_1 : decode cX8_standsWithStrength 1 = .ok (.getfield 69, 3) := by decide +kernel
theorem dX8_standsWithStrength_4 : decode cX8_standsWithStrength 4 = .ok (.getfield 122, 3) := by decide +kernel
theorem dX8_standsWithStrength_7 : decode cX8_standsWithStrength 7 = .ok (.iload_n 1, 1) := by decide +kernel
theorem dX8_standsWithStrength_8 : decode cX8_standsWithStrength 8 = .ok (.iload_n 2, 1) := by decide +kernel
theorem dX8_standsWithStrength_9 : decode cX8_standsWithStrength 9 = .ok (.iastore, 1) := by decide +kernel
theorem dX8_standsWithStrength_10 : decode cX8_standsWithStrength 10 = .ok (.aload_n 0, 1) := by decide +kernel
theorem dX8_standsWithStrength_11 : decode cX8_standsWithStrength 11 = .ok (.getfield 33, 3) := by decide +kernel
theorem dX8_standsWithStrength_14 : decode cX8_standsWithStrength 14 = .ok (.aload_n 0, 1) := by decide +kernel
theorem dX8_standsWithStrength_15 : decode cX8_standsWithStrength 15 = .ok (.getfield 47, 3) := by decide +kernel
theorem dX8_standsWithStrength_18 : decode cX8_standsWithStrength 18 = .ok (.invokevirtual 176, 3) := by decide +kernel
theorem dX8_standsWithStrength_21 : decode cX8_standsWithStrength 21 = .ok (.aload_n 0, 1) := by decide +kernel
theorem dX8_standsWithStrength_22 : decode cX8_standsWithStrength 22 = .ok (.getfield 33, 3) := by decide +kernel
theorem dX8_standsWithStrength_25 : decode cX8_standsWithStrength 25 = .ok (.aload_n 0, 1) := by decide +kernel
theorem dX8_standsWithStrength_26 : decode cX8_standsWithStrength 26 = .ok (.getfield 69, 3) := by decide +kernel
theorem dX8_standsWithStrength_29 : decode cX8_standsWithStrength 29 = .ok (.invokevirtual 297, 3) := by decide +kernel
theorem dX8_standsWithStrength_32 : decode cX8_standsWithStrength 32 = .ok (.ireturn, 1) := by decide +kernel
theorem dX8_shirkWeight_0 : decode cX8_shirkWeight 0 = .ok (.iload_n 1, 1) := by decide +kernel
theorem dX8_shirkWeight_1 : decode cX8_shirkWeight 1 = .ok (.invokestatic 238, 3) := by decide +kernel
theorem dX8_shirkWeight_4 : decode cX8_shirkWeight 4 = .ok (.istore_n 3, 1) := by decide +kernel
theorem dX8_shirkWeight_5 : decode cX8_shirkWeight 5 = .ok (.iload_n 2, 1) := by decide +kernel
theorem dX8_shirkWeight_6 : decode cX8_shirkWeight 6 = .ok (.iload_n 3, 1) := by decide +kernel
theorem dX8_shirkWeight_7 : decode cX8_shirkWeight 7 = .ok (.invokestatic 243, 3) := by decide +kernel
theorem dX8_shirkWeight_10 : decode cX8_shirkWeight 10 = .ok (.bipush 10, 2) := by decide +kernel
theorem dX8_shirkWeight_12 : decode cX8_shirkWeight 12 = .ok (.iload_n 2, 1) := by decide +kernel
theorem dX8_shirkWeight_13 : decode cX8_shirkWeight 13 = .ok (.isub, 1) := by decide +kernel
theorem dX8_shirkWeight_14 : decode cX8_shirkWeight 14 = .ok (.aload_n 0, 1) := by decide +kernel
theorem dX8_shirkWeight_15 : decode cX8_shirkWeight 15 = .ok (.getfield 47, 3) := by decide +kernel
theorem dX8_shirkWeight_18 : decode cX8_shirkWeight 18 = .ok (.getfield 198, 3) := by decide +kernel
theorem dX8_shirkWeight_21 : decode cX8_shirkWeight 21 = .ok (.invokestatic 238, 3) := by decide +kernel
theorem dX8_shirkWeight_24 : decode cX8_shirkWeight 24 = .ok (.iload_n 3, 1) := by decide +kernel
theorem dX8_shirkWeight_25 : decode cX8_shirkWeight 25 = .ok (.isub, 1) := by decide +kernel
theorem dX8_shirkWeight_26 : decode cX8_shirkWeight 26 = .ok (.invokestatic 243, 3) := by decide +kernel
theorem dX8_shirkWeight_29 : decode cX8_shirkWeight 29 = .ok (.imul, 1) := by decide +kernel
theorem dX8_shirkWeight_30 : decode cX8_shirkWeight 30 = .ok (.ireturn, 1) := by decide +kernel
theorem dX8_standsWithShirkers_0 : decode cX8_standsWithShirkers 0 = .ok (.aload_n 0, 1) := by decide +kernel
theorem dX8_standsWithShirkers_1 : decode cX8_standsWithShirkers 1 = .ok (.getfield 33, 3) := by decide +kernel
theorem dX8_standsWithShirkers_4 : decode cX8_standsWithShirkers 4 = .ok (.aload_n 0, 1) := by decide +kernel
theorem dX8_standsWithShirkers_5 : decode cX8_standsWithShirkers 5 = .ok (.getfield 47, 3) := by decide +kernel
theorem dX8_standsWithShirkers_8 : decode cX8_standsWithShirkers 8 = .ok (.invokevirtual 176, 3) := by decide +kernel
theorem dX8_standsWithShirkers_11 : decode cX8_standsWithShirkers 11 = .ok (.aload_n 0, 1) := by decide +kernel
theorem dX8_standsWithShirkers_12 : decode cX8_standsWithShirkers 12 = .ok (.getfield 33, 3) := by decide +kernel
theorem dX8_standsWithShirkers_15 : decode cX8_standsWithShirkers 15 = .ok (.getfield 262, 3) := by decide +kernel
theorem dX8_standsWithShirkers_18 : decode cX8_standsWithShirkers 18 = .ok (.aload_n 0, 1) := by decide +kernel
theorem dX8_standsWithShirkers_19 : decode cX8_standsWithShirkers 19 = .ok (.getfield 47, 3) := by decide +kernel
theorem dX8_standsWithShirkers_22 : decode cX8_standsWithShirkers 22 = .ok (.getfield 198, 3) := by decide +kernel
theorem dX8_standsWithShirkers_25 : decode cX8_standsWithShirkers 25 = .ok (.iload_n 1, 1) := by decide +kernel
theorem dX8_standsWithShirkers_26 : decode cX8_standsWithShirkers 26 = .ok (.iconst (-1), 1) := by decide +kernel
theorem dX8_standsWithShirkers_27 : decode cX8_standsWithShirkers 27 = .ok (.ixor, 1) := by decide +kernel
theorem dX8_standsWithShirkers_28 : decode cX8_standsWithShirkers 28 = .ok (.iand, 1) := by decide +kernel
theorem dX8_standsWithShirkers_29 : decode cX8_standsWithShirkers 29 = .ok (.putfield 198, 3) := by decide +kernel
theorem dX8_standsWithShirkers_32 : decode cX8_standsWithShirkers 32 = .ok (.aload_n 0, 1) := by decide +kernel
theorem dX8_standsWithShirkers_33 : decode cX8_standsWithShirkers 33 = .ok (.getfield 33, 3) := by decide +kernel
theorem dX8_standsWithShirkers_36 : decode cX8_standsWithShirkers 36 = .ok (.aload_n 0, 1) := by decide +kernel
theorem dX8_standsWithShirkers_37 : decode cX8_standsWithShirkers 37 = .ok (.getfield 65, 3) := by decide +kernel
theorem dX8_standsWithShirkers_40 : decode cX8_standsWithShirkers 40 = .ok (.iconst 1, 1) := by decide +kernel
theorem dX8_standsWithShirkers_41 : decode cX8_standsWithShirkers 41 = .ok (.invokevirtual 179, 3) := by decide +kernel
theorem dX8_standsWithShirkers_44 : decode cX8_standsWithShirkers 44 = .ok (.bipush (-4), 2) := by decide +kernel
theorem dX8_standsWithShirkers_46 : decode cX8_standsWithShirkers 46 = .ok (.if_icmp .eq 5, 3) := by decide +kernel
theorem dX8_standsWithShirkers_49 : decode cX8_standsWithShirkers 49 = .ok (.iconst 0, 1) := by decide +kernel
theorem dX8_standsWithShirkers_50 : decode cX8_standsWithShirkers 50 = .ok (.ireturn, 1) := by decide +kernel
theorem dX8_standsWithShirkers_51 : decode cX8_standsWithShirkers 51 = .ok (.aload_n 0, 1) := by decide +kernel
theorem dX8_standsWithShirkers_52 : decode cX8_standsWithShirkers 52 = .ok (.getfield 33, 3) := by decide +kernel
theorem dX8_standsWithShirkers_55 : decode cX8_standsWithShirkers 55 = .ok (.getfield 262, 3) := by decide +kernel
theorem dX8_standsWithShirkers_58 : decode cX8_standsWithShirkers 58 = .ok (.dup, 1) := by decide +kernel
theorem dX8_standsWithShirkers_59 : decode cX8_standsWithShirkers 59 = .ok (.getfield 198, 3) := by decide +kernel
theorem dX8_standsWithShirkers_62 : decode cX8_standsWithShirkers 62 = .ok (.iload_n 1, 1) := by decide +kernel
theorem dX8_standsWithShirkers_63 : decode cX8_standsWithShirkers 63 = .ok (.ior, 1) := by decide +kernel
theorem dX8_standsWithShirkers_64 : decode cX8_standsWithShirkers 64 = .ok (.putfield 198, 3) := by decide +kernel
theorem dX8_standsWithShirkers_67 : decode cX8_standsWithShirkers 67 = .ok (.aload_n 0, 1) := by decide +kernel
theorem dX8_standsWithShirkers_68 : decode cX8_standsWithShirkers 68 = .ok (.getfield 33, 3) := by decide +kernel
theorem dX8_standsWithShirkers_71 : decode cX8_standsWithShirkers 71 = .ok (.aload_n 0, 1) := by decide +kernel
theorem dX8_standsWithShirkers_72 : decode cX8_standsWithShirkers 72 = .ok (.getfield 65, 3) := by decide +kernel
theorem dX8_standsWithShirkers_75 : decode cX8_standsWithShirkers 75 = .ok (.bipush 11, 2) := by decide +kernel
theorem dX8_standsWithShirkers_77 : decode cX8_standsWithShirkers 77 = .ok (.invokevirtual 179, 3) := by decide +kernel
theorem dX8_standsWithShirkers_80 : decode cX8_standsWithShirkers 80 = .ok (.bipush (-4), 2) := by decide +kernel
theorem dX8_standsWithShirkers_82 : decode cX8_standsWithShirkers 82 = .ok (.if_icmp .ne 7, 3) := by decide +kernel
theorem dX8_standsWithShirkers_85 : decode cX8_standsWithShirkers 85 = .ok (.iconst 1, 1) := by decide +kernel
theorem dX8_standsWithShirkers_86 : decode cX8_standsWithShirkers 86 = .ok (.goto 4, 3) := by decide +kernel
theorem dX8_standsWithShirkers_89 : decode cX8_standsWithShirkers 89 = .ok (.iconst 0, 1) := by decide +kernel
theorem dX8_standsWithShirkers_90 : decode cX8_standsWithShirkers 90 = .ok (.ireturn, 1) := by decide +kernel
theorem dX8_hasBit_0 : decode cX8_hasBit 0 = .ok (.iload_n 0, 1) := by decide +kernel
theorem dX8_hasBit_1 : decode cX8_hasBit 1 = .ok (.iload_n 1, 1) := by decide +kernel
theorem dX8_hasBit_2 : decode cX8_hasBit 2 = .ok (.ishr, 1) := by decide +kernel
theorem dX8_hasBit_3 : decode cX8_hasBit 3 = .ok (.iconst 1, 1) := by decide +kernel
theorem dX8_hasBit_4 : decode cX8_hasBit 4 = .ok (.iand, 1) := by decide +kernel
theorem dX8_hasBit_5 : decode cX8_hasBit 5 = .ok (.iconst 1, 1) := by decide +kernel
theorem dX8_hasBit_6 : decode cX8_hasBit 6 = .ok (.if_icmp .ne 7, 3) := by decide +kernel
theorem dX8_hasBit_9 : decode cX8_hasBit 9 = .ok (.iconst 1, 1) := by decide +kernel
theorem dX8_hasBit_10 : decode cX8_hasBit 10 = .ok (.goto 4, 3) := by decide +kernel
theorem dX8_hasBit_13 : decode cX8_hasBit 13 = .ok (.iconst 0, 1) := by decide +kernel
theorem dX8_hasBit_14 : decode cX8_hasBit 14 = .ok (.ireturn, 1) := by decide +kernel
theorem dX8_isPart_0 : decode cX8_isPart 0 = .ok (.iload_n 0, 1) := by decide +kernel
theorem dX8_isPart_1 : decode cX8_isPart 1 = .ok (.iload_n 1, 1) := by decide +kernel
theorem dX8_isPart_2 : decode cX8_isPart 2 = .ok (.iconst (-1), 1) := by decide +kernel
theorem dX8_isPart_3 : decode cX8_isPart 3 = .ok (.ixor, 1) := by decide +kernel
theorem dX8_isPart_4 : decode cX8_isPart 4 = .ok (.iand, 1) := by decide +kernel
theorem dX8_isPart_5 : decode cX8_isPart 5 = .ok (.ifCond .ne 7, 3) := by decide +kernel
theorem dX8_isPart_8 : decode cX8_isPart 8 = .ok (.iconst 1, 1) := by decide +kernel
theorem dX8_isPart_9 : decode cX8_isPart 9 = .ok (.goto 4, 3) := by decide +kernel
theorem dX8_isPart_12 : decode cX8_isPart 12 = .ok (.iconst 0, 1) := by decide +kernel
theorem dX8_isPart_13 : decode cX8_isPart 13 = .ok (.ireturn, 1) := by decide +kernel
theorem dX8_isFewer_0 : decode cX8_isFewer 0 = .ok (.iload_n 1, 1) := by decide +kernel
theorem dX8_isFewer_1 : decode cX8_isFewer 1 = .ok (.bipush (-4), 2) := by decide +kernel
theorem dX8_isFewer_3 : decode cX8_isFewer 3 = .ok (.if_icmp .eq 14, 3) := by decide +kernel
theorem dX8_isFewer_6 : decode cX8_isFewer 6 = .ok (.iload_n 0, 1) := by decide +kernel
theorem dX8_isFewer_7 : decode cX8_isFewer 7 = .ok (.invokestatic 238, 3) := by decide +kernel
theorem dX8_isFewer_10 : decode cX8_isFewer 10 = .ok (.iload_n 1, 1) := by decide +kernel
theorem dX8_isFewer_11 : decode cX8_isFewer 11 = .ok (.invokestatic 238, 3) := by decide +kernel
theorem dX8_isFewer_14 : decode cX8_isFewer 14 = .ok (.if_icmp .ge 7, 3) := by decide +kernel
theorem dX8_isFewer_17 : decode cX8_isFewer 17 = .ok (.iconst 1, 1) := by decide +kernel
theorem dX8_isFewer_18 : decode cX8_isFewer 18 = .ok (.goto 4, 3) := by decide +kernel
theorem dX8_isFewer_21 : decode cX8_isFewer 21 = .ok (.iconst 0, 1) := by decide +kernel
theorem dX8_isFewer_22 : decode cX8_isFewer 22 = .ok (.ireturn, 1) := by decide +kernel
theorem dX8_draw_0 : decode cX8_draw 0 = .ok (.ldc2_w 301, 3) := by decide +kernel
theorem dX8_draw_3 : decode cX8_draw 3 = .ok (.iload_n 0, 1) := by decide +kernel
theorem dX8_draw_4 : decode cX8_draw 4 = .ok (.i2l, 1) := by decide +kernel
theorem dX8_draw_5 : decode cX8_draw 5 = .ok (.lmul, 1) := by decide +kernel
theorem dX8_draw_6 : decode cX8_draw 6 = .ok (.ldc2_w 303, 3) := by decide +kernel
theorem dX8_draw_9 : decode cX8_draw 9 = .ok (.iload_n 1, 1) := by decide +kernel
theorem dX8_draw_10 : decode cX8_draw 10 = .ok (.i2l, 1) := by decide +kernel
theorem dX8_draw_11 : decode cX8_draw 11 = .ok (.lmul, 1) := by decide +kernel
theorem dX8_draw_12 : decode cX8_draw 12 = .ok (.ladd, 1) := by decide +kernel
theorem dX8_draw_13 : decode cX8_draw 13 = .ok (.lconst 1, 1) := by decide +kernel
theorem dX8_draw_14 : decode cX8_draw 14 = .ok (.ladd, 1) := by decide +kernel
theorem dX8_draw_15 : decode cX8_draw 15 = .ok (.lstore_n 2, 1) := by decide +kernel
theorem dX8_draw_16 : decode cX8_draw 16 = .ok (.lload_n 2, 1) := by decide +kernel
theorem dX8_draw_17 : decode cX8_draw 17 = .ok (.lload_n 2, 1) := by decide +kernel
theorem dX8_draw_18 : decode cX8_draw 18 = .ok (.lmul, 1) := by decide +kernel
theorem dX8_draw_19 : decode cX8_draw 19 = .ok (.ldc2_w 305, 3) := by decide +kernel
theorem dX8_draw_22 : decode cX8_draw 22 = .ok (.lrem, 1) := by decide +kernel
theorem dX8_draw_23 : decode cX8_draw 23 = .ok (.l2i, 1) := by decide +kernel
theorem dX8_draw_24 : decode cX8_draw 24 = .ok (.ireturn, 1) := by decide +kernel
theorem dX8_power_0 : decode cX8_power 0 = .ok (.iconst 1, 1) := by decide +kernel
theorem dX8_power_1 : decode cX8_power 1 = .ok (.istore_n 2, 1) := by decide +kernel
theorem dX8_power_2 : decode cX8_power 2 = .ok (.iconst 0, 1) := by decide +kernel
theorem dX8_power_3 : decode cX8_power 3 = .ok (.istore_n 3, 1) := by decide +kernel
theorem dX8_power_4 : decode cX8_power 4 = .ok (.iload_n 3, 1) := by decide +kernel
theorem dX8_power_5 : decode cX8_power 5 = .ok (.iload_n 1, 1) := by decide +kernel
theorem dX8_power_6 : decode cX8_power 6 = .ok (.if_icmp .ge 13, 3) := by decide +kernel
theorem dX8_power_9 : decode cX8_power 9 = .ok (.iload_n 2, 1) := by decide +kernel
theorem dX8_power_10 : decode cX8_power 10 = .ok (.iload_n 0, 1) := by decide +kernel
theorem dX8_power_11 : decode cX8_power 11 = .ok (.imul, 1) := by decide +kernel
theorem dX8_power_12 : decode cX8_power 12 = .ok (.istore_n 2, 1) := by decide +kernel
theorem dX8_power_13 : decode cX8_power 13 = .ok (.iinc 3 1, 3) := by decide +kernel
theorem dX8_power_16 : decode cX8_power 16 = .ok (.goto (-12), 3) := by decide +kernel
theorem dX8_power_19 : decode cX8_power 19 = .ok (.iload_n 2, 1) := by decide +kernel
theorem dX8_power_20 : decode cX8_power 20 = .ok (.ireturn, 1) := by decide +kernel
theorem dX8_commonDivisor_0 : decode cX8_commonDivisor 0 = .ok (.iload_n 0, 1) := by decide +kernel
theorem dX8_commonDivisor_1 : decode cX8_commonDivisor 1 = .ok (.istore_n 2, 1) := by decide +kernel
theorem dX8_commonDivisor_2 : decode cX8_commonDivisor 2 = .ok (.iload_n 1, 1) := by decide +kernel
theorem dX8_commonDivisor_3 : decode cX8_commonDivisor 3 = .ok (.istore_n 3, 1) := by decide +kernel
theorem dX8_commonDivisor_4 : decode cX8_commonDivisor 4 = .ok (.iconst 0, 1) := by decide +kernel
theorem dX8_commonDivisor_5 : decode cX8_commonDivisor 5 = .ok (.istore 4, 2) := by decide +kernel
theorem dX8_commonDivisor_7 : decode cX8_commonDivisor 7 = .ok (.iload 4, 2) := by decide +kernel
theorem dX8_commonDivisor_9 : decode cX8_commonDivisor 9 = .ok (.bipush 64, 2) := by decide +kernel
theorem dX8_commonDivisor_11 : decode cX8_commonDivisor 11 = .ok (.if_icmp .ge 23, 3) := by decide +kernel
theorem dX8_commonDivisor_14 : decode cX8_commonDivisor 14 = .ok (.iload_n 3, 1) := by decide +kernel
theorem dX8_commonDivisor_15 : decode cX8_commonDivisor 15 = .ok (.ifCond .eq 19, 3) := by decide +kernel
theorem dX8_commonDivisor_18 : decode cX8_commonDivisor 18 = .ok (.iload_n 2, 1) := by decide +kernel
theorem dX8_commonDivisor_19 : decode cX8_commonDivisor 19 = .ok (.iload_n 3, 1) := by decide +kernel
theorem dX8_commonDivisor_20 : decode cX8_commonDivisor 20 = .ok (.irem, 1) := by decide +kernel
theorem dX8_commonDivisor_21 : decode cX8_commonDivisor 21 = .ok (.istore 5, 2) := by decide +kernel
theorem dX8_commonDivisor_23 : decode cX8_commonDivisor 23 = .ok (.iload_n 3, 1) := by decide +kernel
theorem dX8_commonDivisor_24 : decode cX8_commonDivisor 24 = .ok (.istore_n 2, 1) := by decide +kernel
theorem dX8_commonDivisor_25 : decode cX8_commonDivisor 25 = .ok (.iload 5, 2) := by decide +kernel
theorem dX8_commonDivisor_27 : decode cX8_commonDivisor 27 = .ok (.istore_n 3, 1) := by decide +kernel
theorem dX8_commonDivisor_28 : decode cX8_commonDivisor 28 = .ok (.iinc 4 1, 3) := by decide +kernel
theorem dX8_commonDivisor_31 : decode cX8_commonDivisor 31 = .ok (.goto (-24), 3) := by decide +kernel
theorem dX8_commonDivisor_34 : decode cX8_commonDivisor 34 = .ok (.iload_n 2, 1) := by decide +kernel
theorem dX8_commonDivisor_35 : decode cX8_commonDivisor 35 = .ok (.ireturn, 1) := by decide +kernel
