theorem dX0_init_0 : decode cX0_init 0 = .ok (.aload_n 0, 1) := by decide +kernel
theorem dX0_init_1 : decode cX0_init 1 = .ok (.invokespecial 3, 3) := by decide +kernel
theorem dX0_init_4 : decode cX0_init 4 = .ok (.aload_n 0, 1) := by decide +kernel
theorem dX0_init_5 : decode cX0_init 5 = .ok (.bipush 8, 2) := by decide +kernel
theorem dX0_init_7 : decode cX0_init 7 = .ok (.newarray .int, 2) := by decide +kernel
theorem dX0_init_9 : decode cX0_init 9 = .ok (.putfield 9, 3) := by decide +kernel
theorem dX0_init_12 : decode cX0_init 12 = .ok (.aload_n 0, 1) := by decide +kernel
theorem dX0_init_13 : decode cX0_init 13 = .ok (.bipush 8, 2) := by decide +kernel
theorem dX0_init_15 : decode cX0_init 15 = .ok (.newarray .int, 2) := by decide +kernel
theorem dX0_init_17 : decode cX0_init 17 = .ok (.putfield 15, 3) := by decide +kernel
theorem dX0_init_20 : decode cX0_init 20 = .ok (.aload_n 0, 1) := by decide +kernel
theorem dX0_init_21 : decode cX0_init 21 = .ok (.bipush 8, 2) := by decide +kernel
theorem dX0_init_23 : decode cX0_init 23 = .ok (.newarray .int, 2) := by decide +kernel
theorem dX0_init_25 : decode cX0_init 25 = .ok (.putfield 18, 3) := by decide +kernel
theorem dX0_init_28 : decode cX0_init 28 = .ok (.return_, 1) := by decide +kernel
theorem dX0_heldBays_0 : decode cX0_heldBays 0 = .ok (.aload_n 0, 1) := by decide +kernel
theorem dX0_heldBays_1 : decode cX0_heldBays 1 = .ok (.aload_n 1, 1) := by decide +kernel
theorem dX0_heldBays_2 : decode cX0_heldBays 2 = .ok (.aload_n 2, 1) := by decide +kernel
theorem dX0_heldBays_3 : decode cX0_heldBays 3 = .ok (.invokevirtual 21, 3) := by decide +kernel
theorem dX0_heldBays_6 : decode cX0_heldBays 6 = .ok (.iconst 0, 1) := by decide +kernel
theorem dX0_heldBays_7 : decode cX0_heldBays 7 = .ok (.istore_n 3, 1) := by decide +kernel
theorem dX0_heldBays_8 : decode cX0_heldBays 8 = .ok (.iload_n 3, 1) := by decide +kernel
theorem dX0_heldBays_9 : decode cX0_heldBays 9 = .ok (.aload_n 1, 1) := by decide +kernel
theorem dX0_heldBays_10 : decode cX0_heldBays 10 = .ok (.getfield 25, 3) := by decide +kernel
theorem dX0_heldBays_13 : decode cX0_heldBays 13 = .ok (.if_icmp .ge 45, 3) := by decide +kernel
theorem dX0_heldBays_16 : decode cX0_heldBays 16 = .ok (.iload_n 3, 1) := by decide +kernel
theorem dX0_heldBays_17 : decode cX0_heldBays 17 = .ok (.bipush 8, 2) := by decide +kernel
theorem dX0_heldBays_19 : decode cX0_heldBays 19 = .ok (.if_icmp .ge 39, 3) := by decide +kernel
theorem dX0_heldBays_22 : decode cX0_heldBays 22 = .ok (.aload_n 0, 1) := by decide +kernel
theorem dX0_heldBays_23 : decode cX0_heldBays 23 = .ok (.getfield 15, 3) := by decide +kernel
theorem dX0_heldBays_26 : decode cX0_heldBays 26 = .ok (.iload_n 3, 1) := by decide +kernel
theorem dX0_heldBays_27 : decode cX0_heldBays 27 = .ok (.aload_n 1, 1) := by decide +kernel
theorem dX0_heldBays_28 : decode cX0_heldBays 28 = .ok (.getfield 31, 3) := by decide +kernel
theorem dX0_heldBays_31 : decode cX0_heldBays 31 = .ok (.iload_n 3, 1) := by decide +kernel
theorem dX0_heldBays_32 : decode cX0_heldBays 32 = .ok (.iaload, 1) := by decide +kernel
theorem dX0_heldBays_33 : decode cX0_heldBays 33 = .ok (.aload_n 1, 1) := by decide +kernel
theorem dX0_heldBays_34 : decode cX0_heldBays 34 = .ok (.aload_n 2, 1) := by decide +kernel
theorem dX0_heldBays_35 : decode cX0_heldBays 35 = .ok (.iload_n 3, 1) := by decide +kernel
theorem dX0_heldBays_36 : decode cX0_heldBays 36 = .ok (.iconst 1, 1) := by decide +kernel
theorem dX0_heldBays_37 : decode cX0_heldBays 37 = .ok (.isub, 1) := by decide +kernel
theorem dX0_heldBays_38 : decode cX0_heldBays 38 = .ok (.invokestatic 34, 3) := by decide +kernel
theorem dX0_heldBays_41 : decode cX0_heldBays 41 = .ok (.iadd, 1) := by decide +kernel
theorem dX0_heldBays_42 : decode cX0_heldBays 42 = .ok (.aload_n 1, 1) := by decide +kernel
theorem dX0_heldBays_43 : decode cX0_heldBays 43 = .ok (.aload_n 2, 1) := by decide +kernel
theorem dX0_heldBays_44 : decode cX0_heldBays 44 = .ok (.iload_n 3, 1) := by decide +kernel
theorem dX0_heldBays_45 : decode cX0_heldBays 45 = .ok (.iconst 1, 1) := by decide +kernel
theorem dX0_heldBays_46 : decode cX0_heldBays 46 = .ok (.iadd, 1) := by decide +kernel
theorem dX0_heldBays_47 : decode cX0_heldBays 47 = .ok (.invokestatic 34, 3) := by decide +kernel
theorem dX0_heldBays_50 : decode cX0_heldBays 50 = .ok (.iadd, 1) := by decide +kernel
theorem dX0_heldBays_51 : decode cX0_heldBays 51 = .ok (.iastore, 1) := by decide +kernel
theorem dX0_heldBays_52 : decode cX0_heldBays 52 = .ok (.iinc 3 1, 3) := by decide +kernel
theorem dX0_heldBays_55 : decode cX0_heldBays 55 = .ok (.goto (-47), 3) := by decide +kernel
theorem dX0_heldBays_58 : decode cX0_heldBays 58 = .ok (.iconst 0, 1) := by decide +kernel
theorem dX0_heldBays_59 : decode cX0_heldBays 59 = .ok (.istore_n 3, 1) := by decide +kernel
theorem dX0_heldBays_60 : decode cX0_heldBays 60 = .ok (.iconst 0, 1) := by decide +kernel
theorem dX0_heldBays_61 : decode cX0_heldBays 61 = .ok (.istore 4, 2) := by decide +kernel
theorem dX0_heldBays_63 : decode cX0_heldBays 63 = .ok (.iload 4, 2) := by decide +kernel
theorem dX0_heldBays_65 : decode cX0_heldBays 65 = .ok (.aload_n 1, 1) := by decide +kernel
theorem dX0_heldBays_66 : decode cX0_heldBays 66 = .ok (.getfield 25, 3) := by decide +kernel
theorem dX0_heldBays_69 : decode cX0_heldBays 69 = .ok (.if_icmp .ge 76, 3) := by decide +kernel
theorem dX0_heldBays_72 : decode cX0_heldBays 72 = .ok (.iload 4, 2) := by decide +kernel
theorem dX0_heldBays_74 : decode cX0_heldBays 74 = .ok (.bipush 8, 2) := by decide +kernel
theorem dX0_heldBays_76 : decode cX0_heldBays 76 = .ok (.if_icmp .ge 69, 3) := by decide +kernel
theorem dX0_heldBays_79 : decode cX0_heldBays 79 = .ok (.aload_n 0, 1) := by decide +kernel
theorem dX0_heldBays_80 : decode cX0_heldBays 80 = .ok (.getfield 18, 3) := by decide +kernel
theorem dX0_heldBays_83 : decode cX0_heldBays 83 = .ok (.iload 4, 2) := by decide +kernel
theorem dX0_heldBays_85 : decode cX0_heldBays 85 = .ok (.aload_n 0, 1) := by decide +kernel
theorem dX0_heldBays_86 : decode cX0_heldBays 86 = .ok (.getfield 9, 3) := by decide +kernel
theorem dX0_heldBays_89 : decode cX0_heldBays 89 = .ok (.iload 4, 2) := by decide +kernel
theorem dX0_heldBays_91 : decode cX0_heldBays 91 = .ok (.iaload, 1) := by decide +kernel
theorem dX0_heldBays_92 : decode cX0_heldBays 92 = .ok (.aload_n 0, 1) := by decide +kernel
theorem dX0_heldBays_93 : decode cX0_heldBays 93 = .ok (.aload_n 1, 1) := by decide +kernel
theorem dX0_heldBays_94 : decode cX0_heldBays 94 = .ok (.aload_n 2, 1) := by decide +kernel
theorem dX0_heldBays_95 : decode cX0_heldBays 95 = .ok (.iload 4, 2) := by decide +kernel
theorem dX0_heldBays_97 : decode cX0_heldBays 97 = .ok (.iconst 1, 1) := by decide +kernel
theorem dX0_heldBays_98 : decode cX0_heldBays 98 = .ok (.isub, 1) := by decide +kernel
theorem dX0_heldBays_99 : decode cX0_heldBays 99 = .ok (.invokevirtual 38, 3) := by decide +kernel
theorem dX0_heldBays_102 : decode cX0_heldBays 102 = .ok (.iadd, 1) := by decide +kernel
theorem dX0_heldBays_103 : decode cX0_heldBays 103 = .ok (.aload_n 0, 1) := by decide +kernel
theorem dX0_heldBays_104 : decode cX0_heldBays 104 = .ok (.aload_n 1, 1) := by decide +kernel
theorem dX0_heldBays_105 : decode cX0_heldBays 105 = .ok (.aload_n 2, 1) := by decide +kernel
theorem dX0_heldBays_106 : decode cX0_heldBays 106 = .ok (.iload 4, 2) := by decide +kernel
theorem dX0_heldBays_108 : decode cX0_heldBays 108 = .ok (.iconst 1, 1) := by decide +kernel
theorem dX0_heldBays_109 : decode cX0_heldBays 109 = .ok (.iadd, 1) := by decide +kernel
theorem dX0_heldBays_110 : decode cX0_heldBays 110 = .ok (.invokevirtual 38, 3) := by decide +kernel
theorem dX0_heldBays_113 : decode cX0_heldBays 113 = .ok (.iadd, 1) := by decide +kernel
theorem dX0_heldBays_114 : decode cX0_heldBays 114 = .ok (.iastore, 1) := by decide +kernel
theorem dX0_heldBays_115 : decode cX0_heldBays 115 = .ok (.aload_n 0, 1) := by decide +kernel
theorem dX0_heldBays_116 : decode cX0_heldBays 116 = .ok (.getfield 18, 3) := by decide +kernel
theorem dX0_heldBays_119 : decode cX0_heldBays 119 = .ok (.iload 4, 2) := by decide +kernel
theorem dX0_heldBays_121 : decode cX0_heldBays 121 = .ok (.iaload, 1) := by decide +kernel
theorem dX0_heldBays_122 : decode cX0_heldBays 122 = .ok (.aload_n 0, 1) := by decide +kernel
theorem dX0_heldBays_123 : decode cX0_heldBays 123 = .ok (.getfield 15, 3) := by decide +kernel
theorem dX0_heldBays_126 : decode cX0_heldBays 126 = .ok (.iload 4, 2) := by decide +kernel
theorem dX0_heldBays_128 : decode cX0_heldBays 128 = .ok (.iaload, 1) := by decide +kernel
theorem dX0_heldBays_129 : decode cX0_heldBays 129 = .ok (.if_icmp .lt 10, 3) := by decide +kernel
theorem dX0_heldBays_132 : decode cX0_heldBays 132 = .ok (.iload_n 3, 1) := by decide +kernel
theorem dX0_heldBays_133 : decode cX0_heldBays 133 = .ok (.iconst 1, 1) := by decide +kernel
theorem dX0_heldBays_134 : decode cX0_heldBays 134 = .ok (.iload 4, 2) := by decide +kernel
theorem dX0_heldBays_136 : decode cX0_heldBays 136 = .ok (.ishl, 1) := by decide +kernel
theorem dX0_heldBays_137 : decode cX0_heldBays 137 = .ok (.ior, 1) := by decide +kernel
theorem dX0_heldBays_138 : decode cX0_heldBays 138 = .ok (.istore_n 3, 1) := by decide +kernel
theorem dX0_heldBays_139 : decode cX0_heldBays 139 = .ok (.iinc 4 1, 3) := by decide +kernel
theorem dX0_heldBays_142 : decode cX0_heldBays 142 = .ok (.goto (-79), 3) := by decide +kernel
theorem dX0_heldBays_145 : decode cX0_heldBays 145 = .ok (.iload_n 3, 1) := by decide +kernel
theorem dX0_heldBays_146 : decode cX0_heldBays 146 = .ok (.aload_n 2, 1) := by decide +kernel
theorem dX0_heldBays_147 : decode cX0_heldBays 147 = .ok (.getfield 41, 3) := by decide +kernel
theorem dX0_heldBays_150 : decode cX0_heldBays 150 = .ok (.iconst (-1), 1) := by decide +kernel
theorem dX0_heldBays_151 : decode cX0_heldBays 151 = .ok (.ixor, 1) := by decide +kernel
theorem dX0_heldBays_152 : decode cX0_heldBays 152 = .ok (.iand, 1) := by decide +kernel
theorem dX0_heldBays_153 : decode cX0_heldBays 153 = .ok (.ireturn, 1) := by decide +kernel
theorem dX0_weighRaised_0 : decode cX0_weighRaised 0 = .ok (.iconst 0, 1) := by decide +kernel
theorem dX0_weighRaised_1 : decode cX0_weighRaised 1 = .ok (.istore_n 3, 1) := by decide +kernel
theorem dX0_weighRaised_2 : decode cX0_weighRaised 2 = .ok (.iload_n 3, 1) := by decide +kernel
theorem dX0_weighRaised_3 : decode cX0_weighRaised 3 = .ok (.bipush 8, 2) := by decide +kernel
theorem dX0_weighRaised_5 : decode cX0_weighRaised 5 = .ok (.if_icmp .ge 16, 3) := by decide +kernel
theorem dX0_weighRaised_8 : decode cX0_weighRaised 8 = .ok (.aload_n 0, 1) := by decide +kernel
theorem dX0_weighRaised_9 : decode cX0_weighRaised 9 = .ok (.getfield 9, 3) := by decide +kernel
theorem dX0_weighRaised_12 : decode cX0_weighRaised 12 = .ok (.iload_n 3, 1) := by decide +kernel
theorem dX0_weighRaised_13 : decode cX0_weighRaised 13 = .ok (.iconst 0, 1) := by decide +kernel
theorem dX0_weighRaised_14 : decode cX0_weighRaised 14 = .ok (.iastore, 1) := by decide +kernel
theorem dX0_weighRaised_15 : decode cX0_weighRaised 15 = .ok (.iinc 3 1, 3) := by decide +kernel
theorem dX0_weighRaised_18 : decode cX0_weighRaised 18 = .ok (.goto (-16), 3) := by decide +kernel
theorem dX0_weighRaised_21 : decode cX0_weighRaised 21 = .ok (.iconst 0, 1) := by decide +kernel
theorem dX0_weighRaised_22 : decode cX0_weighRaised 22 = .ok (.istore_n 3, 1) := by decide +kernel
theorem dX0_weighRaised_23 : decode cX0_weighRaised 23 = .ok (.iload_n 3, 1) := by decide +kernel
theorem dX0_weighRaised_24 : decode cX0_weighRaised 24 = .ok (.aload_n 1, 1) := by decide +kernel
theorem dX0_weighRaised_25 : decode cX0_weighRaised 25 = .ok (.getfield 46, 3) := by decide +kernel
theorem dX0_weighRaised_28 : decode cX0_weighRaised 28 = .ok (.if_icmp .ge 56, 3) := by decide +kernel
theorem dX0_weighRaised_31 : decode cX0_weighRaised 31 = .ok (.iload_n 3, 1) := by decide +kernel
theorem dX0_weighRaised_32 : decode cX0_weighRaised 32 = .ok (.bipush 6, 2) := by decide +kernel
theorem dX0_weighRaised_34 : decode cX0_weighRaised 34 = .ok (.if_icmp .ge 50, 3) := by decide +kernel
theorem dX0_weighRaised_37 : decode cX0_weighRaised 37 = .ok (.aload_n 2, 1) := by decide +kernel
theorem dX0_weighRaised_38 : decode cX0_weighRaised 38 = .ok (.getfield 49, 3) := by decide +kernel
theorem dX0_weighRaised_41 : decode cX0_weighRaised 41 = .ok (.iload_n 3, 1) := by decide +kernel
theorem dX0_weighRaised_42 : decode cX0_weighRaised 42 = .ok (.iaload, 1) := by decide +kernel
theorem dX0_weighRaised_43 : decode cX0_weighRaised 43 = .ok (.istore 4, 2) := by decide +kernel
theorem dX0_weighRaised_45 : decode cX0_weighRaised 45 = .ok (.aload_n 2, 1) := by decide +kernel
theorem dX0_weighRaised_46 : decode cX0_weighRaised 46 = .ok (.iload_n 3, 1) := by decide +kernel
theorem dX0_weighRaised_47 : decode cX0_weighRaised 47 = .ok (.invokevirtual 52, 3) := by decide +kernel
theorem dX0_weighRaised_50 : decode cX0_weighRaised 50 = .ok (.ifCond .eq 28, 3) := by decide +kernel
theorem dX0_weighRaised_53 : decode cX0_weighRaised 53 = .ok (.aload_n 1, 1) := by decide +kernel
theorem dX0_weighRaised_54 : decode cX0_weighRaised 54 = .ok (.iload 4, 2) := by decide +kernel
theorem dX0_weighRaised_56 : decode cX0_weighRaised 56 = .ok (.invokevirtual 56, 3) := by decide +kernel
theorem dX0_weighRaised_59 : decode cX0_weighRaised 59 = .ok (.ifCond .eq 19, 3) := by decide +kernel
theorem dX0_weighRaised_62 : decode cX0_weighRaised 62 = .ok (.aload_n 0, 1) := by decide +kernel
theorem dX0_weighRaised_63 : decode cX0_weighRaised 63 = .ok (.getfield 9, 3) := by decide +kernel
theorem dX0_weighRaised_66 : decode cX0_weighRaised 66 = .ok (.iload 4, 2) := by decide +kernel
theorem dX0_weighRaised_68 : decode cX0_weighRaised 68 = .ok (.dup2, 1) := by decide +kernel
theorem dX0_weighRaised_69 : decode cX0_weighRaised 69 = .ok (.iaload, 1) := by decide +kernel
theorem dX0_weighRaised_70 : decode cX0_weighRaised 70 = .ok (.aload_n 1, 1) := by decide +kernel
theorem dX0_weighRaised_71 : decode cX0_weighRaised 71 = .ok (.getfield 59, 3) := by decide +kernel
theorem dX0_weighRaised_74 : decode cX0_weighRaised 74 = .ok (.iload_n 3, 1) := by decide +kernel
theorem dX0_weighRaised_75 : decode cX0_weighRaised 75 = .ok (.iaload, 1) := by decide +kernel
theorem dX0_weighRaised_76 : decode cX0_weighRaised 76 = .ok (.iadd, 1) := by decide +kernel
theorem dX0_weighRaised_77 : decode cX0_weighRaised 77 = .ok (.iastore, 1) := by decide +kernel
theorem dX0_weighRaised_78 : decode cX0_weighRaised 78 = .ok (.iinc 3 1, 3) := by decide +kernel
theorem dX0_weighRaised_81 : decode cX0_weighRaised 81 = .ok (.goto (-58), 3) := by decide +kernel
theorem dX0_weighRaised_84 : decode cX0_weighRaised 84 = .ok (.return_, 1) := by decide +kernel
theorem dX0_thrown_0 : decode cX0_thrown 0 = .ok (.aload_n 0, 1) := by decide +kernel
theorem dX0_thrown_1 : decode cX0_thrown 1 = .ok (.iload_n 2, 1) := by decide +kernel
theorem dX0_thrown_2 : decode cX0_thrown 2 = .ok (.invokevirtual 56, 3) := by decide +kernel
theorem dX0_thrown_5 : decode cX0_thrown 5 = .ok (.ifCond .eq 22, 3) := by decide +kernel
theorem dX0_thrown_8 : decode cX0_thrown 8 = .ok (.aload_n 1, 1) := by decide +kernel
theorem dX0_thrown_9 : decode cX0_thrown 9 = .ok (.iload_n 2, 1) := by decide +kernel
theorem dX0_thrown_10 : decode cX0_thrown 10 = .ok (.invokevirtual 62, 3) := by decide +kernel
theorem dX0_thrown_13 : decode cX0_thrown 13 = .ok (.ifCond .eq 14, 3) := by decide +kernel
theorem dX0_thrown_16 : decode cX0_thrown 16 = .ok (.aload_n 0, 1) := by decide +kernel
theorem dX0_thrown_17 : decode cX0_thrown 17 = .ok (.getfield 31, 3) := by decide +kernel
theorem dX0_thrown_20 : decode cX0_thrown 20 = .ok (.iload_n 2, 1) := by decide +kernel
theorem dX0_thrown_21 : decode cX0_thrown 21 = .ok (.iaload, 1) := by decide +kernel
theorem dX0_thrown_22 : decode cX0_thrown 22 = .ok (.iconst 2, 1) := by decide +kernel
theorem dX0_thrown_23 : decode cX0_thrown 23 = .ok (.idiv, 1) := by decide +kernel
theorem dX0_thrown_24 : decode cX0_thrown 24 = .ok (.goto 4, 3) := by decide +kernel
theorem dX0_thrown_27 : decode cX0_thrown 27 = .ok (.iconst 0, 1) := by decide +kernel
theorem dX0_thrown_28 : decode cX0_thrown 28 = .ok (.ireturn, 1) := by decide +kernel
theorem dX0_lent_0 : decode cX0_lent 0 = .ok (.aload_n 1, 1) := by decide +kernel
theorem dX0_lent_1 : decode cX0_lent 1 = .ok (.iload_n 3, 1) := by decide +kernel
theorem dX0_lent_2 : decode cX0_lent 2 = .ok (.invokevirtual 56, 3) := by decide +kernel
theorem dX0_lent_5 : decode cX0_lent 5 = .ok (.ifCond .eq 11, 3) := by decide +kernel
theorem dX0_lent_8 : decode cX0_lent 8 = .ok (.aload_n 2, 1) := by decide +kernel
theorem dX0_lent_9 : decode cX0_lent 9 = .ok (.iload_n 3, 1) := by decide +kernel
theorem dX0_lent_10 : decode cX0_lent 10 = .ok (.invokevirtual 62, 3) := by decide +kernel
theorem dX0_lent_13 : decode cX0_lent 13 = .ok (.ifCond .eq 5, 3) := by decide +kernel
theorem dX0_lent_16 : decode cX0_lent 16 = .ok (.iconst 0, 1) := by decide +kernel
theorem dX0_lent_17 : decode cX0_lent 17 = .ok (.ireturn, 1) := by decide +kernel
theorem dX0_lent_18 : decode cX0_lent 18 = .ok (.iconst 0, 1) := by decide +kernel
theorem dX0_lent_19 : decode cX0_lent 19 = .ok (.aload_n 0, 1) := by decide +kernel
theorem dX0_lent_20 : decode cX0_lent 20 = .ok (.getfield 9, 3) := by decide +kernel
theorem dX0_lent_23 : decode cX0_lent 23 = .ok (.iload_n 3, 1) := by decide +kernel
theorem dX0_lent_24 : decode cX0_lent 24 = .ok (.iaload, 1) := by decide +kernel
theorem dX0_lent_25 : decode cX0_lent 25 = .ok (.aload_n 0, 1) := by decide +kernel
theorem dX0_lent_26 : decode cX0_lent 26 = .ok (.getfield 15, 3) := by decide +kernel
theorem dX0_lent_29 : decode cX0_lent 29 = .ok (.iload_n 3, 1) := by decide +kernel
theorem dX0_lent_30 : decode cX0_lent 30 = .ok (.iaload, 1) := by decide +kernel
theorem dX0_lent_31 : decode cX0_lent 31 = .ok (.isub, 1) := by decide +kernel
theorem dX0_lent_32 : decode cX0_lent 32 = .ok (.invokestatic 65, 3) := by decide +kernel
theorem dX0_lent_35 : decode cX0_lent 35 = .ok (.iconst 2, 1) := by decide +kernel
theorem dX0_lent_36 : decode cX0_lent 36 = .ok (.idiv, 1) := by decide +kernel
theorem dX0_lent_37 : decode cX0_lent 37 = .ok (.ireturn, 1) := by decide +kernel
theorem dX0_goBy_0 : decode cX0_goBy 0 = .ok (.aload_n 0, 1) := by decide +kernel
theorem dX0_goBy_1 : decode cX0_goBy 1 = .ok (.aload_n 1, 1) := by decide +kernel
theorem dX0_goBy_2 : decode cX0_goBy 2 = .ok (.aload_n 2, 1) := by decide +kernel
theorem dX0_goBy_3 : decode cX0_goBy 3 = .ok (.invokevirtual 71, 3) := by decide +kernel
theorem dX0_goBy_6 : decode cX0_goBy 6 = .ok (.istore_n 3, 1) := by decide +kernel
theorem dX0_goBy_7 : decode cX0_goBy 7 = .ok (.aload_n 1, 1) := by decide +kernel
theorem dX0_goBy_8 : decode cX0_goBy 8 = .ok (.aload_n 2, 1) := by decide +kernel
theorem dX0_goBy_9 : decode cX0_goBy 9 = .ok (.getfield 75, 3) := by decide +kernel
theorem dX0_goBy_12 : decode cX0_goBy 12 = .ok (.invokevirtual 78, 3) := by decide +kernel
theorem dX0_goBy_15 : decode cX0_goBy 15 = .ok (.istore 4, 2) := by decide +kernel
theorem dX0_goBy_17 : decode cX0_goBy 17 = .ok (.iconst 0, 1) := by decide +kernel
theorem dX0_goBy_18 : decode cX0_goBy 18 = .ok (.istore 5, 2) := by decide +kernel
theorem dX0_goBy_20 : decode cX0_goBy 20 = .ok (.iload 5, 2) := by decide +kernel
theorem dX0_goBy_22 : decode cX0_goBy 22 = .ok (.aload_n 1, 1) := by decide +kernel
theorem dX0_goBy_23 : decode cX0_goBy 23 = .ok (.getfield 46, 3) := by decide +kernel
theorem dX0_goBy_26 : decode cX0_goBy 26 = .ok (.if_icmp .ge 70, 3) := by decide +kernel
theorem dX0_goBy_29 : decode cX0_goBy 29 = .ok (.iload 5, 2) := by decide +kernel
theorem dX0_goBy_31 : decode cX0_goBy 31 = .ok (.bipush 6, 2) := by decide +kernel
theorem dX0_goBy_33 : decode cX0_goBy 33 = .ok (.if_icmp .ge 63, 3) := by decide +kernel
theorem dX0_goBy_36 : decode cX0_goBy 36 = .ok (.aload_n 2, 1) := by decide +kernel
theorem dX0_goBy_37 : decode cX0_goBy 37 = .ok (.iload 5, 2) := by decide +kernel
theorem dX0_goBy_39 : decode cX0_goBy 39 = .ok (.invokevirtual 52, 3) := by decide +kernel
theorem dX0_goBy_42 : decode cX0_goBy 42 = .ok (.ifCond .eq 13, 3) := by decide +kernel
theorem dX0_goBy_45 : decode cX0_goBy 45 = .ok (.aload_n 1, 1) := by decide +kernel
theorem dX0_goBy_46 : decode cX0_goBy 46 = .ok (.aload_n 2, 1) := by decide +kernel
theorem dX0_goBy_47 : decode cX0_goBy 47 = .ok (.iload 5, 2) := by decide +kernel
theorem dX0_goBy_49 : decode cX0_goBy 49 = .ok (.invokestatic 81, 3) := by decide +kernel
theorem dX0_goBy_52 : decode cX0_goBy 52 = .ok (.goto 10, 3) := by decide +kernel
theorem dX0_goBy_55 : decode cX0_goBy 55 = .ok (.aload_n 1, 1) := by decide +kernel
theorem dX0_goBy_56 : decode cX0_goBy 56 = .ok (.iload 5, 2) := by decide +kernel
theorem dX0_goBy_58 : decode cX0_goBy 58 = .ok (.invokestatic 84, 3) := by decide +kernel
theorem dX0_goBy_61 : decode cX0_goBy 61 = .ok (.ineg, 1) := by decide +kernel
theorem dX0_goBy_62 : decode cX0_goBy 62 = .ok (.istore 6, 2) := by decide +kernel
theorem dX0_goBy_64 : decode cX0_goBy 64 = .ok (.aload_n 2, 1) := by decide +kernel
theorem dX0_goBy_65 : decode cX0_goBy 65 = .ok (.getfield 88, 3) := by decide +kernel
theorem dX0_goBy_68 : decode cX0_goBy 68 = .ok (.iload 5, 2) := by decide +kernel
theorem dX0_goBy_70 : decode cX0_goBy 70 = .ok (.iconst 0, 1) := by decide +kernel
theorem dX0_goBy_71 : decode cX0_goBy 71 = .ok (.bipush 99, 2) := by decide +kernel
theorem dX0_goBy_73 : decode cX0_goBy 73 = .ok (.aload_n 2, 1) := by decide +kernel
theorem dX0_goBy_74 : decode cX0_goBy 74 = .ok (.getfield 88, 3) := by decide +kernel
theorem dX0_goBy_77 : decode cX0_goBy 77 = .ok (.iload 5, 2) := by decide +kernel
theorem dX0_goBy_79 : decode cX0_goBy 79 = .ok (.iaload, 1) := by decide +kernel
theorem dX0_goBy_80 : decode cX0_goBy 80 = .ok (.iload 6, 2) := by decide +kernel
theorem dX0_goBy_82 : decode cX0_goBy 82 = .ok (.iadd, 1) := by decide +kernel
theorem dX0_goBy_83 : decode cX0_goBy 83 = .ok (.invokestatic 91, 3) := by decide +kernel
theorem dX0_goBy_86 : decode cX0_goBy 86 = .ok (.invokestatic 65, 3) := by decide +kernel
theorem dX0_goBy_89 : decode cX0_goBy 89 = .ok (.iastore, 1) := by decide +kernel
theorem dX0_goBy_90 : decode cX0_goBy 90 = .ok (.iinc 5 1, 3) := by decide +kernel
theorem dX0_goBy_93 : decode cX0_goBy 93 = .ok (.goto (-73), 3) := by decide +kernel
theorem dX0_goBy_96 : decode cX0_goBy 96 = .ok (.aload_n 1, 1) := by decide +kernel
theorem dX0_goBy_97 : decode cX0_goBy 97 = .ok (.aload_n 2, 1) := by decide +kernel
theorem dX0_goBy_98 : decode cX0_goBy 98 = .ok (.iload_n 3, 1) := by decide +kernel
theorem dX0_goBy_99 : decode cX0_goBy 99 = .ok (.invokestatic 94, 3) := by decide +kernel
theorem dX0_goBy_102 : decode cX0_goBy 102 = .ok (.istore 5, 2) := by decide +kernel
theorem dX0_goBy_104 : decode cX0_goBy 104 = .ok (.aload_n 2, 1) := by decide +kernel
theorem dX0_goBy_105 : decode cX0_goBy 105 = .ok (.dup, 1) := by decide +kernel
theorem dX0_goBy_106 : decode cX0_goBy 106 = .ok (.getfield 41, 3) := by decide +kernel
theorem dX0_goBy_109 : decode cX0_goBy 109 = .ok (.iload 5, 2) := by decide +kernel
theorem dX0_goBy_111 : decode cX0_goBy 111 = .ok (.ior, 1) := by decide +kernel
theorem dX0_goBy_112 : decode cX0_goBy 112 = .ok (.putfield 41, 3) := by decide +kernel
theorem dX0_goBy_115 : decode cX0_goBy 115 = .ok (.aload_n 1, 1) := by decide +kernel
theorem dX0_goBy_116 : decode cX0_goBy 116 = .ok (.aload_n 2, 1) := by decide +kernel
theorem dX0_goBy_117 : decode cX0_goBy 117 = .ok (.iload 4, 2) := by decide +kernel
theorem dX0_goBy_119 : decode cX0_goBy 119 = .ok (.invokestatic 97, 3) := by decide +kernel
theorem dX0_goBy_122 : decode cX0_goBy 122 = .ok (.aload_n 2, 1) := by decide +kernel
theorem dX0_goBy_123 : decode cX0_goBy 123 = .ok (.dup, 1) := by decide +kernel
theorem dX0_goBy_124 : decode cX0_goBy 124 = .ok (.getfield 75, 3) := by decide +kernel
theorem dX0_goBy_127 : decode cX0_goBy 127 = .ok (.iconst 1, 1) := by decide +kernel
theorem dX0_goBy_128 : decode cX0_goBy 128 = .ok (.iadd, 1) := by decide +kernel
theorem dX0_goBy_129 : decode cX0_goBy 129 = .ok (.putfield 75, 3) := by decide +kernel
theorem dX0_goBy_132 : decode cX0_goBy 132 = .ok (.iload 5, 2) := by decide +kernel
theorem dX0_goBy_134 : decode cX0_goBy 134 = .ok (.ireturn, 1) := by decide +kernel
theorem dX0_tiring_0 : decode cX0_tiring 0 = .ok (.aload_n 0, 1) := by decide +kernel
theorem dX0_tiring_1 : decode cX0_tiring 1 = .ok (.getfield 101, 3) := by decide +kernel
theorem dX0_tiring_4 : decode cX0_tiring 4 = .ok (.iload_n 2, 1) := by decide +kernel
theorem dX0_tiring_5 : decode cX0_tiring 5 = .ok (.iaload, 1) := by decide +kernel
theorem dX0_tiring_6 : decode cX0_tiring 6 = .ok (.iconst 2, 1) := by decide +kernel
theorem dX0_tiring_7 : decode cX0_tiring 7 = .ok (.if_icmp .eq 22, 3) := by decide +kernel
theorem dX0_tiring_10 : decode cX0_tiring 10 = .ok (.aload_n 0, 1) := by decide +kernel
theorem dX0_tiring_11 : decode cX0_tiring 11 = .ok (.getfield 101, 3) := by decide +kernel
theorem dX0_tiring_14 : decode cX0_tiring 14 = .ok (.iload_n 2, 1) := by decide +kernel
theorem dX0_tiring_15 : decode cX0_tiring 15 = .ok (.iaload, 1) := by decide +kernel
theorem dX0_tiring_16 : decode cX0_tiring 16 = .ok (.iconst 1, 1) := by decide +kernel
theorem dX0_tiring_17 : decode cX0_tiring 17 = .ok (.if_icmp .ne 16, 3) := by decide +kernel
theorem dX0_tiring_20 : decode cX0_tiring 20 = .ok (.aload_n 0, 1) := by decide +kernel
theorem dX0_tiring_21 : decode cX0_tiring 21 = .ok (.aload_n 1, 1) := by decide +kernel
theorem dX0_tiring_22 : decode cX0_tiring 22 = .ok (.iload_n 2, 1) := by decide +kernel
theorem dX0_tiring_23 : decode cX0_tiring 23 = .ok (.invokestatic 104, 3) := by decide +kernel
theorem dX0_tiring_26 : decode cX0_tiring 26 = .ok (.ifCond .eq 7, 3) := by decide +kernel
theorem dX0_tiring_29 : decode cX0_tiring 29 = .ok (.iconst 1, 1) := by decide +kernel
theorem dX0_tiring_30 : decode cX0_tiring 30 = .ok (.goto 4, 3) := by decide +kernel
theorem dX0_tiring_33 : decode cX0_tiring 33 = .ok (.iconst 0, 1) := by decide +kernel
theorem dX0_tiring_34 : decode cX0_tiring 34 = .ok (.istore_n 3, 1) := by decide +kernel
theorem dX0_tiring_35 : decode cX0_tiring 35 = .ok (.iload_n 3, 1) := by decide +kernel
theorem dX0_tiring_36 : decode cX0_tiring 36 = .ok (.ifCond .eq 7, 3) := by decide +kernel
theorem dX0_tiring_39 : decode cX0_tiring 39 = .ok (.iconst 2, 1) := by decide +kernel
theorem dX0_tiring_40 : decode cX0_tiring 40 = .ok (.goto 4, 3) := by decide +kernel
theorem dX0_tiring_43 : decode cX0_tiring 43 = .ok (.iconst 1, 1) := by decide +kernel
theorem dX0_tiring_44 : decode cX0_tiring 44 = .ok (.ireturn, 1) := by decide +kernel
theorem dX0_resting_0 : decode cX0_resting 0 = .ok (.aload_n 0, 1) := by decide +kernel
theorem dX0_resting_1 : decode cX0_resting 1 = .ok (.getfield 101, 3) := by decide +kernel
theorem dX0_resting_4 : decode cX0_resting 4 = .ok (.iload_n 1, 1) := by decide +kernel
theorem dX0_resting_5 : decode cX0_resting 5 = .ok (.iaload, 1) := by decide +kernel
theorem dX0_resting_6 : decode cX0_resting 6 = .ok (.iconst 2, 1) := by decide +kernel
theorem dX0_resting_7 : decode cX0_resting 7 = .ok (.if_icmp .ne 7, 3) := by decide +kernel
theorem dX0_resting_10 : decode cX0_resting 10 = .ok (.iconst 1, 1) := by decide +kernel
theorem dX0_resting_11 : decode cX0_resting 11 = .ok (.goto 4, 3) := by decide +kernel
theorem dX0_resting_14 : decode cX0_resting 14 = .ok (.iconst 2, 1) := by decide +kernel
theorem dX0_resting_15 : decode cX0_resting 15 = .ok (.ireturn, 1) := by decide +kernel
theorem dX0_isAlone_0 : decode cX0_isAlone 0 = .ok (.iconst 0, 1) := by decide +kernel
theorem dX0_isAlone_1 : decode cX0_isAlone 1 = .ok (.istore_n 3, 1) := by decide +kernel
theorem dX0_isAlone_2 : decode cX0_isAlone 2 = .ok (.iload_n 3, 1) := by decide +kernel
theorem dX0_isAlone_3 : decode cX0_isAlone 3 = .ok (.aload_n 0, 1) := by decide +kernel
theorem dX0_isAlone_4 : decode cX0_isAlone 4 = .ok (.getfield 46, 3) := by decide +kernel
theorem dX0_isAlone_7 : decode cX0_isAlone 7 = .ok (.if_icmp .ge 62, 3) := by decide +kernel
theorem dX0_isAlone_10 : decode cX0_isAlone 10 = .ok (.iload_n 3, 1) := by decide +kernel
theorem dX0_isAlone_11 : decode cX0_isAlone 11 = .ok (.bipush 6, 2) := by decide +kernel
theorem dX0_isAlone_13 : decode cX0_isAlone 13 = .ok (.if_icmp .ge 56, 3) := by decide +kernel
theorem dX0_isAlone_16 : decode cX0_isAlone 16 = .ok (.aload_n 1, 1) := by decide +kernel
theorem dX0_isAlone_17 : decode cX0_isAlone 17 = .ok (.getfield 49, 3) := by decide +kernel
theorem dX0_isAlone_20 : decode cX0_isAlone 20 = .ok (.iload_n 3, 1) := by decide +kernel
theorem dX0_isAlone_21 : decode cX0_isAlone 21 = .ok (.iaload, 1) := by decide +kernel
theorem dX0_isAlone_22 : decode cX0_isAlone 22 = .ok (.aload_n 1, 1) := by decide +kernel
theorem dX0_isAlone_23 : decode cX0_isAlone 23 = .ok (.getfield 49, 3) := by decide +kernel
theorem dX0_isAlone_26 : decode cX0_isAlone 26 = .ok (.iload_n 2, 1) := by decide +kernel
theorem dX0_isAlone_27 : decode cX0_isAlone 27 = .ok (.iaload, 1) := by decide +kernel
theorem dX0_isAlone_28 : decode cX0_isAlone 28 = .ok (.isub, 1) := by decide +kernel
theorem dX0_isAlone_29 : decode cX0_isAlone 29 = .ok (.invokestatic 108, 3) := by decide +kernel
theorem dX0_isAlone_32 : decode cX0_isAlone 32 = .ok (.iconst 1, 1) := by decide +kernel
theorem dX0_isAlone_33 : decode cX0_isAlone 33 = .ok (.if_icmp .gt 7, 3) := by decide +kernel
theorem dX0_isAlone_36 : decode cX0_isAlone 36 = .ok (.iconst 1, 1) := by decide +kernel
theorem dX0_isAlone_37 : decode cX0_isAlone 37 = .ok (.goto 4, 3) := by decide +kernel
theorem dX0_isAlone_40 : decode cX0_isAlone 40 = .ok (.iconst 0, 1) := by decide +kernel
theorem dX0_isAlone_41 : decode cX0_isAlone 41 = .ok (.istore 4, 2) := by decide +kernel
theorem dX0_isAlone_43 : decode cX0_isAlone 43 = .ok (.iload_n 3, 1) := by decide +kernel
theorem dX0_isAlone_44 : decode cX0_isAlone 44 = .ok (.iload_n 2, 1) := by decide +kernel
theorem dX0_isAlone_45 : decode cX0_isAlone 45 = .ok (.if_icmp .eq 18, 3) := by decide +kernel
theorem dX0_isAlone_48 : decode cX0_isAlone 48 = .ok (.aload_n 1, 1) := by decide +kernel
theorem dX0_isAlone_49 : decode cX0_isAlone 49 = .ok (.iload_n 3, 1) := by decide +kernel
theorem dX0_isAlone_50 : decode cX0_isAlone 50 = .ok (.invokevirtual 52, 3) := by decide +kernel
theorem dX0_isAlone_53 : decode cX0_isAlone 53 = .ok (.ifCond .eq 10, 3) := by decide +kernel
theorem dX0_isAlone_56 : decode cX0_isAlone 56 = .ok (.iload 4, 2) := by decide +kernel
theorem dX0_isAlone_58 : decode cX0_isAlone 58 = .ok (.ifCond .eq 5, 3) := by decide +kernel
theorem dX0_isAlone_61 : decode cX0_isAlone 61 = .ok (.iconst 0, 1) := by decide +kernel
theorem dX0_isAlone_62 : decode cX0_isAlone 62 = .ok (.ireturn, 1) := by decide +kernel
theorem dX0_isAlone_63 : decode cX0_isAlone 63 = .ok (.iinc 3 1, 3) := by decide +kernel
theorem dX0_isAlone_66 : decode cX0_isAlone 66 = .ok (.goto (-64), 3) := by decide +kernel
theorem dX0_isAlone_69 : decode cX0_isAlone 69 = .ok (.iconst 1, 1) := by decide +kernel
theorem dX0_isAlone_70 : decode cX0_isAlone 70 = .ok (.ireturn, 1) := by decide +kernel
theorem dX0_ageBays_0 : decode cX0_ageBays 0 = .ok (.iconst 0, 1) := by decide +kernel
theorem dX0_ageBays_1 : decode cX0_ageBays 1 = .ok (.istore_n 3, 1) := by decide +kernel
theorem dX0_ageBays_2 : decode cX0_ageBays 2 = .ok (.iconst 0, 1) := by decide +kernel
theorem dX0_ageBays_3 : decode cX0_ageBays 3 = .ok (.istore 4, 2) := by decide +kernel
theorem dX0_ageBays_5 : decode cX0_ageBays 5 = .ok (.iload 4, 2) := by decide +kernel
theorem dX0_ageBays_7 : decode cX0_ageBays 7 = .ok (.aload_n 0, 1) := by decide +kernel
theorem dX0_ageBays_8 : decode cX0_ageBays 8 = .ok (.getfield 25, 3) := by decide +kernel
theorem dX0_ageBays_11 : decode cX0_ageBays 11 = .ok (.if_icmp .ge 81, 3) := by decide +kernel
theorem dX0_ageBays_14 : decode cX0_ageBays 14 = .ok (.iload 4, 2) := by decide +kernel
theorem dX0_ageBays_16 : decode cX0_ageBays 16 = .ok (.bipush 8, 2) := by decide +kernel
theorem dX0_ageBays_18 : decode cX0_ageBays 18 = .ok (.if_icmp .ge 74, 3) := by decide +kernel
theorem dX0_ageBays_21 : decode cX0_ageBays 21 = .ok (.aload_n 1, 1) := by decide +kernel
theorem dX0_ageBays_22 : decode cX0_ageBays 22 = .ok (.iload 4, 2) := by decide +kernel
theorem dX0_ageBays_24 : decode cX0_ageBays 24 = .ok (.invokevirtual 62, 3) := by decide +kernel
theorem dX0_ageBays_27 : decode cX0_ageBays 27 = .ok (.ifCond .eq 6, 3) := by decide +kernel
theorem dX0_ageBays_30 : decode cX0_ageBays 30 = .ok (.goto 56, 3) := by decide +kernel
theorem dX0_ageBays_33 : decode cX0_ageBays 33 = .ok (.aload_n 1, 1) := by decide +kernel
theorem dX0_ageBays_34 : decode cX0_ageBays 34 = .ok (.getfield 112, 3) := by decide +kernel
theorem dX0_ageBays_37 : decode cX0_ageBays 37 = .ok (.iload 4, 2) := by decide +kernel
theorem dX0_ageBays_39 : decode cX0_ageBays 39 = .ok (.iload_n 2, 1) := by decide +kernel
theorem dX0_ageBays_40 : decode cX0_ageBays 40 = .ok (.iload 4, 2) := by decide +kernel
theorem dX0_ageBays_42 : decode cX0_ageBays 42 = .ok (.invokestatic 115, 3) := by decide +kernel
theorem dX0_ageBays_45 : decode cX0_ageBays 45 = .ok (.ifCond .eq 7, 3) := by decide +kernel
theorem dX0_ageBays_48 : decode cX0_ageBays 48 = .ok (.iconst 0, 1) := by decide +kernel
theorem dX0_ageBays_49 : decode cX0_ageBays 49 = .ok (.goto 12, 3) := by decide +kernel
theorem dX0_ageBays_52 : decode cX0_ageBays 52 = .ok (.aload_n 1, 1) := by decide +kernel
theorem dX0_ageBays_53 : decode cX0_ageBays 53 = .ok (.getfield 112, 3) := by decide +kernel
theorem dX0_ageBays_56 : decode cX0_ageBays 56 = .ok (.iload 4, 2) := by decide +kernel
theorem dX0_ageBays_58 : decode cX0_ageBays 58 = .ok (.iaload, 1) := by decide +kernel
theorem dX0_ageBays_59 : decode cX0_ageBays 59 = .ok (.iconst 1, 1) := by decide +kernel
theorem dX0_ageBays_60 : decode cX0_ageBays 60 = .ok (.iadd, 1) := by decide +kernel
theorem dX0_ageBays_61 : decode cX0_ageBays 61 = .ok (.iastore, 1) := by decide +kernel
theorem dX0_ageBays_62 : decode cX0_ageBays 62 = .ok (.aload_n 1, 1) := by decide +kernel
theorem dX0_ageBays_63 : decode cX0_ageBays 63 = .ok (.getfield 112, 3) := by decide +kernel
theorem dX0_ageBays_66 : decode cX0_ageBays 66 = .ok (.iload 4, 2) := by decide +kernel
theorem dX0_ageBays_68 : decode cX0_ageBays 68 = .ok (.iaload, 1) := by decide +kernel
theorem dX0_ageBays_69 : decode cX0_ageBays 69 = .ok (.aload_n 0, 1) := by decide +kernel
theorem dX0_ageBays_70 : decode cX0_ageBays 70 = .ok (.getfield 119, 3) := by decide +kernel
theorem dX0_ageBays_73 : decode cX0_ageBays 73 = .ok (.iload 4, 2) := by decide +kernel
theorem dX0_ageBays_75 : decode cX0_ageBays 75 = .ok (.iaload, 1) := by decide +kernel
theorem dX0_ageBays_76 : decode cX0_ageBays 76 = .ok (.if_icmp .le 10, 3) := by decide +kernel
theorem dX0_ageBays_79 : decode cX0_ageBays 79 = .ok (.iload_n 3, 1) := by decide +kernel
theorem dX0_ageBays_80 : decode cX0_ageBays 80 = .ok (.iconst 1, 1) := by decide +kernel
theorem dX0_ageBays_81 : decode cX0_ageBays 81 = .ok (.iload 4, 2) := by decide +kernel
theorem dX0_ageBays_83 : decode cX0_ageBays 83 = .ok (.ishl, 1) := by decide +kernel
theorem dX0_ageBays_84 : decode cX0_ageBays 84 = .ok (.ior, 1) := by decide +kernel
theorem dX0_ageBays_85 : decode cX0_ageBays 85 = .ok (.istore_n 3, 1) := by decide +kernel
theorem dX0_ageBays_86 : decode cX0_ageBays 86 = .ok (.iinc 4 1, 3) := by decide +kernel
theorem dX0_ageBays_89 : decode cX0_ageBays 89 = .ok (.goto (-84), 3) := by decide +kernel
theorem dX0_ageBays_92 : decode cX0_ageBays 92 = .ok (.iload_n 3, 1) := by decide +kernel
theorem dX0_ageBays_93 : decode cX0_ageBays 93 = .ok (.ireturn, 1) := by decide +kernel
theorem dX0_leaveTired_0 : decode cX0_leaveTired 0 = .ok (.iconst 0, 1) := by decide +kernel
theorem dX0_leaveTired_1 : decode cX0_leaveTired 1 = .ok (.istore_n 3, 1) := by decide +kernel
theorem dX0_leaveTired_2 : decode cX0_leaveTired 2 = .ok (.iload_n 3, 1) := by decide +kernel
theorem dX0_leaveTired_3 : decode cX0_leaveTired 3 = .ok (.aload_n 0, 1) := by decide +kernel
theorem dX0_leaveTired_4 : decode cX0_leaveTired 4 = .ok (.getfield 46, 3) := by decide +kernel
theorem dX0_leaveTired_7 : decode cX0_leaveTired 7 = .ok (.if_icmp .ge 74, 3) := by decide +kernel
theorem dX0_leaveTired_10 : decode cX0_leaveTired 10 = .ok (.iload_n 3, 1) := by decide +kernel
theorem dX0_leaveTired_11 : decode cX0_leaveTired 11 = .ok (.bipush 6, 2) := by decide +kernel
theorem dX0_leaveTired_13 : decode cX0_leaveTired 13 = .ok (.if_icmp .ge 68, 3) := by decide +kernel
theorem dX0_leaveTired_16 : decode cX0_leaveTired 16 = .ok (.aload_n 1, 1) := by decide +kernel
theorem dX0_leaveTired_17 : decode cX0_leaveTired 17 = .ok (.getfield 88, 3) := by decide +kernel
theorem dX0_leaveTired_20 : decode cX0_leaveTired 20 = .ok (.iload_n 3, 1) := by decide +kernel
theorem dX0_leaveTired_21 : decode cX0_leaveTired 21 = .ok (.iaload, 1) := by decide +kernel
theorem dX0_leaveTired_22 : decode cX0_leaveTired 22 = .ok (.aload_n 0, 1) := by decide +kernel
theorem dX0_leaveTired_23 : decode cX0_leaveTired 23 = .ok (.getfield 122, 3) := by decide +kernel
theorem dX0_leaveTired_26 : decode cX0_leaveTired 26 = .ok (.iload_n 3, 1) := by decide +kernel
theorem dX0_leaveTired_27 : decode cX0_leaveTired 27 = .ok (.iaload, 1) := by decide +kernel
theorem dX0_leaveTired_28 : decode cX0_leaveTired 28 = .ok (.if_icmp .le 21, 3) := by decide +kernel
theorem dX0_leaveTired_31 : decode cX0_leaveTired 31 = .ok (.iload_n 2, 1) := by decide +kernel
theorem dX0_leaveTired_32 : decode cX0_leaveTired 32 = .ok (.ifCond .eq 13, 3) := by decide +kernel
theorem dX0_leaveTired_35 : decode cX0_leaveTired 35 = .ok (.aload_n 0, 1) := by decide +kernel
theorem dX0_leaveTired_36 : decode cX0_leaveTired 36 = .ok (.getfield 101, 3) := by decide +kernel
theorem dX0_leaveTired_39 : decode cX0_leaveTired 39 = .ok (.iload_n 3, 1) := by decide +kernel
theorem dX0_leaveTired_40 : decode cX0_leaveTired 40 = .ok (.iaload, 1) := by decide +kernel
theorem dX0_leaveTired_41 : decode cX0_leaveTired 41 = .ok (.iconst 3, 1) := by decide +kernel
theorem dX0_leaveTired_42 : decode cX0_leaveTired 42 = .ok (.if_icmp .eq 7, 3) := by decide +kernel
theorem dX0_leaveTired_45 : decode cX0_leaveTired 45 = .ok (.iconst 1, 1) := by decide +kernel
theorem dX0_leaveTired_46 : decode cX0_leaveTired 46 = .ok (.goto 4, 3) := by decide +kernel
theorem dX0_leaveTired_49 : decode cX0_leaveTired 49 = .ok (.iconst 0, 1) := by decide +kernel
theorem dX0_leaveTired_50 : decode cX0_leaveTired 50 = .ok (.istore 4, 2) := by decide +kernel
theorem dX0_leaveTired_52 : decode cX0_leaveTired 52 = .ok (.iload 4, 2) := by decide +kernel
theorem dX0_leaveTired_54 : decode cX0_leaveTired 54 = .ok (.ifCond .ne 16, 3) := by decide +kernel
theorem dX0_leaveTired_57 : decode cX0_leaveTired 57 = .ok (.aload_n 1, 1) := by decide +kernel
theorem dX0_leaveTired_58 : decode cX0_leaveTired 58 = .ok (.aload_n 1, 1) := by decide +kernel
theorem dX0_leaveTired_59 : decode cX0_leaveTired 59 = .ok (.getfield 49, 3) := by decide +kernel
theorem dX0_leaveTired_62 : decode cX0_leaveTired 62 = .ok (.iload_n 3, 1) := by decide +kernel
theorem dX0_leaveTired_63 : decode cX0_leaveTired 63 = .ok (.iaload, 1) := by decide +kernel
theorem dX0_leaveTired_64 : decode cX0_leaveTired 64 = .ok (.invokevirtual 62, 3) := by decide +kernel
theorem dX0_leaveTired_67 : decode cX0_leaveTired 67 = .ok (.ifCond .eq 8, 3) := by decide +kernel
theorem dX0_leaveTired_70 : decode cX0_leaveTired 70 = .ok (.aload_n 1, 1) := by decide +kernel
theorem dX0_leaveTired_71 : decode cX0_leaveTired 71 = .ok (.iload_n 3, 1) := by decide +kernel
theorem dX0_leaveTired_72 : decode cX0_leaveTired 72 = .ok (.invokevirtual 125, 3) := by decide +kernel
theorem dX0_leaveTired_75 : decode cX0_leaveTired 75 = .ok (.iinc 3 1, 3) := by decide +kernel
theorem dX0_leaveTired_78 : decode cX0_leaveTired 78 = .ok (.goto (-76), 3) := by decide +kernel
theorem dX0_leaveTired_81 : decode cX0_leaveTired 81 = .ok (.return_, 1) := by decide +kernel
theorem dX1_init_0 : decode cX1_init 0 = .ok (.aload_n 0, 1) := by decide +kernel
theorem dX1_init_1 : decode cX1_init 1 = .ok (.invokespecial 3, 3) := by decide +kernel
theorem dX1_init_4 : decode cX1_init 4 = .ok (.aload_n 0, 1) := by decide +kernel
theorem dX1_init_5 : decode cX1_init 5 = .ok (.iconst 4, 1) := by decide +kernel
theorem dX1_init_6 : decode cX1_init 6 = .ok (.newarray .int, 2) := by decide +kernel
theorem dX1_init_8 : decode cX1_init 8 = .ok (.putfield 9, 3) := by decide +kernel
theorem dX1_init_11 : decode cX1_init 11 = .ok (.return_, 1) := by decide +kernel
theorem dX1_readWall_0 : decode cX1_readWall 0 = .ok (.aload_n 2, 1) := by decide +kernel
theorem dX1_readWall_1 : decode cX1_readWall 1 = .ok (.invokevirtual 15, 3) := by decide +kernel
theorem dX1_readWall_4 : decode cX1_readWall 4 = .ok (.aload_n 0, 1) := by decide +kernel
theorem dX1_readWall_5 : decode cX1_readWall 5 = .ok (.iconst 0, 1) := by decide +kernel
theorem dX1_readWall_6 : decode cX1_readWall 6 = .ok (.putfield 20, 3) := by decide +kernel
theorem dX1_readWall_9 : decode cX1_readWall 9 = .ok (.iconst 0, 1) := by decide +kernel
theorem dX1_readWall_10 : decode cX1_readWall 10 = .ok (.istore_n 3, 1) := by decide +kernel
theorem dX1_readWall_11 : decode cX1_readWall 11 = .ok (.iload_n 3, 1) := by decide +kernel
theorem dX1_readWall_12 : decode cX1_readWall 12 = .ok (.sipush 200, 3) := by decide +kernel
theorem dX1_readWall_15 : decode cX1_readWall 15 = .ok (.if_icmp .ge 38, 3) := by decide +kernel
theorem dX1_readWall_18 : decode cX1_readWall 18 = .ok (.aload_n 0, 1) := by decide +kernel
theorem dX1_readWall_19 : decode cX1_readWall 19 = .ok (.getfield 20, 3) := by decide +kernel
theorem dX1_readWall_22 : decode cX1_readWall 22 = .ok (.aload_n 1, 1) := by decide +kernel
theorem dX1_readWall_23 : decode cX1_readWall 23 = .ok (.getfield 24, 3) := by decide +kernel
theorem dX1_readWall_26 : decode cX1_readWall 26 = .ok (.if_icmp .ge 27, 3) := by decide +kernel
theorem dX1_readWall_29 : decode cX1_readWall 29 = .ok (.aload_n 0, 1) := by decide +kernel
theorem dX1_readWall_30 : decode cX1_readWall 30 = .ok (.getfield 20, 3) := by decide +kernel
theorem dX1_readWall_33 : decode cX1_readWall 33 = .ok (.istore 4, 2) := by decide +kernel
theorem dX1_readWall_35 : decode cX1_readWall 35 = .ok (.aload_n 0, 1) := by decide +kernel
theorem dX1_readWall_36 : decode cX1_readWall 36 = .ok (.aload_n 1, 1) := by decide +kernel
theorem dX1_readWall_37 : decode cX1_readWall 37 = .ok (.aload_n 2, 1) := by decide +kernel
theorem dX1_readWall_38 : decode cX1_readWall 38 = .ok (.invokevirtual 29, 3) := by decide +kernel
theorem dX1_readWall_41 : decode cX1_readWall 41 = .ok (.ifCond .ne 6, 3) := by decide +kernel
theorem dX1_readWall_44 : decode cX1_readWall 44 = .ok (.iload 4, 2) := by decide +kernel
theorem dX1_readWall_46 : decode cX1_readWall 46 = .ok (.ireturn, 1) := by decide +kernel
theorem dX1_readWall_47 : decode cX1_readWall 47 = .ok (.iinc 3 1, 3) := by decide +kernel
theorem dX1_readWall_50 : decode cX1_readWall 50 = .ok (.goto (-39), 3) := by decide +kernel
theorem dX1_readWall_53 : decode cX1_readWall 53 = .ok (.bipush (-4), 2) := by decide +kernel
theorem dX1_readWall_55 : decode cX1_readWall 55 = .ok (.ireturn, 1) := by decide +kernel
theorem dX1_readItem_0 : decode cX1_readItem 0 = .ok (.aload_n 1, 1) := by decide +kernel
theorem dX1_readItem_1 : decode cX1_readItem 1 = .ok (.aload_n 0, 1) := by decide +kernel
theorem dX1_readItem_2 : decode cX1_readItem 2 = .ok (.getfield 20, 3) := by decide +kernel
theorem dX1_readItem_5 : decode cX1_readItem 5 = .ok (.invokevirtual 33, 3) := by decide +kernel
theorem dX1_readItem_8 : decode cX1_readItem 8 = .ok (.istore_n 3, 1) := by decide +kernel
theorem dX1_readItem_9 : decode cX1_readItem 9 = .ok (.aload_n 0, 1) := by decide +kernel
theorem dX1_readItem_10 : decode cX1_readItem 10 = .ok (.dup, 1) := by decide +kernel
theorem dX1_readItem_11 : decode cX1_readItem 11 = .ok (.getfield 20, 3) := by decide +kernel
theorem dX1_readItem_14 : decode cX1_readItem 14 = .ok (.iconst 1, 1) := by decide +kernel
theorem dX1_readItem_15 : decode cX1_readItem 15 = .ok (.iadd, 1) := by decide +kernel
theorem dX1_readItem_16 : decode cX1_readItem 16 = .ok (.putfield 20, 3) := by decide +kernel
theorem dX1_readItem_19 : decode cX1_readItem 19 = .ok (.iload_n 3, 1) := by decide +kernel
theorem dX1_readItem_20 : decode cX1_readItem 20 = .ok (.invokestatic 37, 3) := by decide +kernel
theorem dX1_readItem_23 : decode cX1_readItem 23 = .ok (.istore 4, 2) := by decide +kernel
theorem dX1_readItem_25 : decode cX1_readItem 25 = .ok (.iload 4, 2) := by decide +kernel
theorem dX1_readItem_27 : decode cX1_readItem 27 = .ok (.ifCond .ne 5, 3) := by decide +kernel
theorem dX1_readItem_30 : decode cX1_readItem 30 = .ok (.iconst 0, 1) := by decide +kernel
theorem dX1_readItem_31 : decode cX1_readItem 31 = .ok (.ireturn, 1) := by decide +kernel
theorem dX1_readItem_32 : decode cX1_readItem 32 = .ok (.iconst 0, 1) := by decide +kernel
theorem dX1_readItem_33 : decode cX1_readItem 33 = .ok (.istore 5, 2) := by decide +kernel
theorem dX1_readItem_35 : decode cX1_readItem 35 = .ok (.iload 5, 2) := by decide +kernel
theorem dX1_readItem_37 : decode cX1_readItem 37 = .ok (.iload 4, 2) := by decide +kernel
theorem dX1_readItem_39 : decode cX1_readItem 39 = .ok (.if_icmp .ge 58, 3) := by decide +kernel
theorem dX1_readItem_42 : decode cX1_readItem 42 = .ok (.aload_n 0, 1) := by decide +kernel
theorem dX1_readItem_43 : decode cX1_readItem 43 = .ok (.aload_n 1, 1) := by decide +kernel
theorem dX1_readItem_44 : decode cX1_readItem 44 = .ok (.iload 5, 2) := by decide +kernel
theorem dX1_readItem_46 : decode cX1_readItem 46 = .ok (.invokevirtual 41, 3) := by decide +kernel
theorem dX1_readItem_49 : decode cX1_readItem 49 = .ok (.ifCond .eq 30, 3) := by decide +kernel
theorem dX1_readItem_52 : decode cX1_readItem 52 = .ok (.aload_n 1, 1) := by decide +kernel
theorem dX1_readItem_53 : decode cX1_readItem 53 = .ok (.aload_n 0, 1) := by decide +kernel
theorem dX1_readItem_54 : decode cX1_readItem 54 = .ok (.getfield 20, 3) := by decide +kernel
theorem dX1_readItem_57 : decode cX1_readItem 57 = .ok (.invokevirtual 33, 3) := by decide +kernel
theorem dX1_readItem_60 : decode cX1_readItem 60 = .ok (.iload 5, 2) := by decide +kernel
theorem dX1_readItem_62 : decode cX1_readItem 62 = .ok (.iload 4, 2) := by decide +kernel
theorem dX1_readItem_64 : decode cX1_readItem 64 = .ok (.iconst 1, 1) := by decide +kernel
theorem dX1_readItem_65 : decode cX1_readItem 65 = .ok (.isub, 1) := by decide +kernel
theorem dX1_readItem_66 : decode cX1_readItem 66 = .ok (.if_icmp .ne 8, 3) := by decide +kernel
theorem dX1_readItem_69 : decode cX1_readItem 69 = .ok (.bipush 59, 2) := by decide +kernel
theorem dX1_readItem_71 : decode cX1_readItem 71 = .ok (.goto 5, 3) := by decide +kernel
theorem dX1_readItem_74 : decode cX1_readItem 74 = .ok (.bipush 44, 2) := by decide +kernel
theorem dX1_readItem_76 : decode cX1_readItem 76 = .ok (.if_icmp .eq 5, 3) := by decide +kernel
theorem dX1_readItem_79 : decode cX1_readItem 79 = .ok (.iconst 0, 1) := by decide +kernel
theorem dX1_readItem_80 : decode cX1_readItem 80 = .ok (.ireturn, 1) := by decide +kernel
theorem dX1_readItem_81 : decode cX1_readItem 81 = .ok (.aload_n 0, 1) := by decide +kernel
theorem dX1_readItem_82 : decode cX1_readItem 82 = .ok (.dup, 1) := by decide +kernel
theorem dX1_readItem_83 : decode cX1_readItem 83 = .ok (.getfield 20, 3) := by decide +kernel
theorem dX1_readItem_86 : decode cX1_readItem 86 = .ok (.iconst 1, 1) := by decide +kernel
theorem dX1_readItem_87 : decode cX1_readItem 87 = .ok (.iadd, 1) := by decide +kernel
theorem dX1_readItem_88 : decode cX1_readItem 88 = .ok (.putfield 20, 3) := by decide +kernel
theorem dX1_readItem_91 : decode cX1_readItem 91 = .ok (.iinc 5 1, 3) := by decide +kernel
theorem dX1_readItem_94 : decode cX1_readItem 94 = .ok (.goto (-59), 3) := by decide +kernel
theorem dX1_readItem_97 : decode cX1_readItem 97 = .ok (.aload_n 0, 1) := by decide +kernel
theorem dX1_readItem_98 : decode cX1_readItem 98 = .ok (.iload_n 3, 1) := by decide +kernel
theorem dX1_readItem_99 : decode cX1_readItem 99 = .ok (.aload_n 2, 1) := by decide +kernel
theorem dX1_readItem_100 : decode cX1_readItem 100 = .ok (.invokevirtual 45, 3) := by decide +kernel
theorem dX1_readItem_103 : decode cX1_readItem 103 = .ok (.ireturn, 1) := by decide +kernel
theorem dX1_readNumber_0 : decode cX1_readNumber 0 = .ok (.aload_n 1, 1) := by decide +kernel
theorem dX1_readNumber_1 : decode cX1_readNumber 1 = .ok (.aload_n 0, 1) := by decide +kernel
theorem dX1_readNumber_2 : decode cX1_readNumber 2 = .ok (.getfield 20, 3) := by decide +kernel
theorem dX1_readNumber_5 : decode cX1_readNumber 5 = .ok (.invokevirtual 33, 3) := by decide +kernel
theorem dX1_readNumber_8 : decode cX1_readNumber 8 = .ok (.invokestatic 49, 3) := by decide +kernel
theorem dX1_readNumber_11 : decode cX1_readNumber 11 = .ok (.istore_n 3, 1) := by decide +kernel
theorem dX1_readNumber_12 : decode cX1_readNumber 12 = .ok (.iload_n 3, 1) := by decide +kernel
theorem dX1_readNumber_13 : decode cX1_readNumber 13 = .ok (.ifCond .lt 16, 3) := by decide +kernel
theorem dX1_readNumber_16 : decode cX1_readNumber 16 = .ok (.iload_n 2, 1) := by decide +kernel
theorem dX1_readNumber_17 : decode cX1_readNumber 17 = .ok (.ifCond .lt 12, 3) := by decide +kernel
theorem dX1_readNumber_20 : decode cX1_readNumber 20 = .ok (.iload_n 2, 1) := by decide +kernel
theorem dX1_readNumber_21 : decode cX1_readNumber 21 = .ok (.aload_n 0, 1) := by decide +kernel
theorem dX1_readNumber_22 : decode cX1_readNumber 22 = .ok (.getfield 9, 3) := by decide +kernel
theorem dX1_readNumber_25 : decode cX1_readNumber 25 = .ok (.arraylength, 1) := by decide +kernel
theorem dX1_readNumber_26 : decode cX1_readNumber 26 = .ok (.if_icmp .lt 5, 3) := by decide +kernel
theorem dX1_readNumber_29 : decode cX1_readNumber 29 = .ok (.iconst 0, 1) := by decide +kernel
theorem dX1_readNumber_30 : decode cX1_readNumber 30 = .ok (.ireturn, 1) := by decide +kernel
theorem dX1_readNumber_31 : decode cX1_readNumber 31 = .ok (.aload_n 0, 1) := by decide +kernel
theorem dX1_readNumber_32 : decode cX1_readNumber 32 = .ok (.dup, 1) := by decide +kernel
theorem dX1_readNumber_33 : decode cX1_readNumber 33 = .ok (.getfield 20, 3) := by decide +kernel
theorem dX1_readNumber_36 : decode cX1_readNumber 36 = .ok (.iconst 1, 1) := by decide +kernel
theorem dX1_readNumber_37 : decode cX1_readNumber 37 = .ok (.iadd, 1) := by decide +kernel
theorem dX1_readNumber_38 : decode cX1_readNumber 38 = .ok (.putfield 20, 3) := by decide +kernel
theorem dX1_readNumber_41 : decode cX1_readNumber 41 = .ok (.aload_n 1, 1) := by decide +kernel
theorem dX1_readNumber_42 : decode cX1_readNumber 42 = .ok (.aload_n 0, 1) := by decide +kernel
theorem dX1_readNumber_43 : decode cX1_readNumber 43 = .ok (.getfield 20, 3) := by decide +kernel
theorem dX1_readNumber_46 : decode cX1_readNumber 46 = .ok (.invokevirtual 33, 3) := by decide +kernel
theorem dX1_readNumber_49 : decode cX1_readNumber 49 = .ok (.invokestatic 49, 3) := by decide +kernel
theorem dX1_readNumber_52 : decode cX1_readNumber 52 = .ok (.istore 4, 2) := by decide +kernel
theorem dX1_readNumber_54 : decode cX1_readNumber 54 = .ok (.iload 4, 2) := by decide +kernel
theorem dX1_readNumber_56 : decode cX1_readNumber 56 = .ok (.ifCond .lt 21, 3) := by decide +kernel
theorem dX1_readNumber_59 : decode cX1_readNumber 59 = .ok (.iload_n 3, 1) := by decide +kernel
theorem dX1_readNumber_60 : decode cX1_readNumber 60 = .ok (.bipush 10, 2) := by decide +kernel
theorem dX1_readNumber_62 : decode cX1_readNumber 62 = .ok (.imul, 1) := by decide +kernel
theorem dX1_readNumber_63 : decode cX1_readNumber 63 = .ok (.iload 4, 2) := by decide +kernel
theorem dX1_readNumber_65 : decode cX1_readNumber 65 = .ok (.iadd, 1) := by decide +kernel
theorem dX1_readNumber_66 : decode cX1_readNumber 66 = .ok (.istore_n 3, 1) := by decide +kernel
theorem dX1_readNumber_67 : decode cX1_readNumber 67 = .ok (.aload_n 0, 1) := by decide +kernel
theorem dX1_readNumber_68 : decode cX1_readNumber 68 = .ok (.dup, 1) := by decide +kernel
theorem dX1_readNumber_69 : decode cX1_readNumber 69 = .ok (.getfield 20, 3) := by decide +kernel
theorem dX1_readNumber_72 : decode cX1_readNumber 72 = .ok (.iconst 1, 1) := by decide +kernel
theorem dX1_readNumber_73 : decode cX1_readNumber 73 = .ok (.iadd, 1) := by decide +kernel
theorem dX1_readNumber_74 : decode cX1_readNumber 74 = .ok (.putfield 20, 3) := by decide +kernel
theorem dX1_readNumber_77 : decode cX1_readNumber 77 = .ok (.aload_n 0, 1) := by decide +kernel
theorem dX1_readNumber_78 : decode cX1_readNumber 78 = .ok (.getfield 9, 3) := by decide +kernel
theorem dX1_readNumber_81 : decode cX1_readNumber 81 = .ok (.iload_n 2, 1) := by decide +kernel
theorem dX1_readNumber_82 : decode cX1_readNumber 82 = .ok (.iload_n 3, 1) := by decide +kernel
theorem dX1_readNumber_83 : decode cX1_readNumber 83 = .ok (.iastore, 1) := by decide +kernel
theorem dX1_readNumber_84 : decode cX1_readNumber 84 = .ok (.iconst 1, 1) := by decide +kernel
theorem dX1_readNumber_85 : decode cX1_readNumber 85 = .ok (.ireturn, 1) := by decide +kernel
theorem dX1_takeItem_0 : decode cX1_takeItem 0 = .ok (.iload_n 1, 1) := by decide +kernel
theorem dX1_takeItem_1 : decode cX1_takeItem 1 = .ok (.tableswitch 92 98 102 #[35, 81, 92, 92, 52], 35) := by decide +kernel
theorem dX1_takeItem_36 : decode cX1_takeItem 36 = .ok (.aload_n 2, 1) := by decide +kernel
theorem dX1_takeItem_37 : decode cX1_takeItem 37 = .ok (.aload_n 0, 1) := by decide +kernel
theorem dX1_takeItem_38 : decode cX1_takeItem 38 = .ok (.getfield 9, 3) := by decide +kernel
theorem dX1_takeItem_41 : decode cX1_takeItem 41 = .ok (.iconst 0, 1) := by decide +kernel
theorem dX1_takeItem_42 : decode cX1_takeItem 42 = .ok (.iaload, 1) := by decide +kernel
theorem dX1_takeItem_43 : decode cX1_takeItem 43 = .ok (.aload_n 0, 1) := by decide +kernel
theorem dX1_takeItem_44 : decode cX1_takeItem 44 = .ok (.getfield 9, 3) := by decide +kernel
theorem dX1_takeItem_47 : decode cX1_takeItem 47 = .ok (.iconst 1, 1) := by decide +kernel
theorem dX1_takeItem_48 : decode cX1_takeItem 48 = .ok (.iaload, 1) := by decide +kernel
theorem dX1_takeItem_49 : decode cX1_takeItem 49 = .ok (.invokevirtual 52, 3) := by decide +kernel
theorem dX1_takeItem_52 : decode cX1_takeItem 52 = .ok (.ireturn, 1) := by decide +kernel
theorem dX1_takeItem_53 : decode cX1_takeItem 53 = .ok (.aload_n 2, 1) := by decide +kernel
theorem dX1_takeItem_54 : decode cX1_takeItem 54 = .ok (.aload_n 0, 1) := by decide +kernel
theorem dX1_takeItem_55 : decode cX1_takeItem 55 = .ok (.getfield 9, 3) := by decide +kernel
theorem dX1_takeItem_58 : decode cX1_takeItem 58 = .ok (.iconst 0, 1) := by decide +kernel
theorem dX1_takeItem_59 : decode cX1_takeItem 59 = .ok (.iaload, 1) := by decide +kernel
theorem dX1_takeItem_60 : decode cX1_takeItem 60 = .ok (.aload_n 0, 1) := by decide +kernel
theorem dX1_takeItem_61 : decode cX1_takeItem 61 = .ok (.getfield 9, 3) := by decide +kernel
theorem dX1_takeItem_64 : decode cX1_takeItem 64 = .ok (.iconst 1, 1) := by decide +kernel
theorem dX1_takeItem_65 : decode cX1_takeItem 65 = .ok (.iaload, 1) := by decide +kernel
theorem dX1_takeItem_66 : decode cX1_takeItem 66 = .ok (.aload_n 0, 1) := by decide +kernel
theorem dX1_takeItem_67 : decode cX1_takeItem 67 = .ok (.getfield 9, 3) := by decide +kernel
theorem dX1_takeItem_70 : decode cX1_takeItem 70 = .ok (.iconst 2, 1) := by decide +kernel
theorem dX1_takeItem_71 : decode cX1_takeItem 71 = .ok (.iaload, 1) := by decide +kernel
theorem dX1_takeItem_72 : decode cX1_takeItem 72 = .ok (.aload_n 0, 1) := by decide +kernel
theorem dX1_takeItem_73 : decode cX1_takeItem 73 = .ok (.getfield 9, 3) := by decide +kernel
theorem dX1_takeItem_76 : decode cX1_takeItem 76 = .ok (.iconst 3, 1) := by decide +kernel
theorem dX1_takeItem_77 : decode cX1_takeItem 77 = .ok (.iaload, 1) := by decide +kernel
theorem dX1_takeItem_78 : decode cX1_takeItem 78 = .ok (.invokevirtual 56, 3) := by decide +kernel
theorem dX1_takeItem_81 : decode cX1_takeItem 81 = .ok (.ireturn, 1) := by decide +kernel
theorem dX1_takeItem_82 : decode cX1_takeItem 82 = .ok (.aload_n 2, 1) := by decide +kernel
theorem dX1_takeItem_83 : decode cX1_takeItem 83 = .ok (.aload_n 0, 1) := by decide +kernel
theorem dX1_takeItem_84 : decode cX1_takeItem 84 = .ok (.getfield 9, 3) := by decide +kernel
theorem dX1_takeItem_87 : decode cX1_takeItem 87 = .ok (.iconst 0, 1) := by decide +kernel
theorem dX1_takeItem_88 : decode cX1_takeItem 88 = .ok (.iaload, 1) := by decide +kernel
theorem dX1_takeItem_89 : decode cX1_takeItem 89 = .ok (.invokevirtual 60, 3) := by decide +kernel
theorem dX1_takeItem_92 : decode cX1_takeItem 92 = .ok (.ireturn, 1) := by decide +kernel
theorem dX1_takeItem_93 : decode cX1_takeItem 93 = .ok (.aload_n 2, 1) := by decide +kernel
theorem dX1_takeItem_94 : decode cX1_takeItem 94 = .ok (.aload_n 0, 1) := by decide +kernel
theorem dX1_takeItem_95 : decode cX1_takeItem 95 = .ok (.getfield 9, 3) := by decide +kernel
theorem dX1_takeItem_98 : decode cX1_takeItem 98 = .ok (.iconst 0, 1) := by decide +kernel
theorem dX1_takeItem_99 : decode cX1_takeItem 99 = .ok (.iaload, 1) := by decide +kernel
theorem dX1_takeItem_100 : decode cX1_takeItem 100 = .ok (.invokevirtual 64, 3) := by decide +kernel
theorem dX1_takeItem_103 : decode cX1_takeItem 103 = .ok (.ireturn, 1) := by decide +kernel
theorem dX1_numbersBehind_0 : decode cX1_numbersBehind 0 = .ok (.iload_n 0, 1) := by decide +kernel
theorem dX1_numbersBehind_1 : decode cX1_numbersBehind 1 = .ok (.tableswitch 41 98 102 #[35, 39, 39, 41, 37], 35) := by decide +kernel
theorem dX1_numbersBehind_36 : decode cX1_numbersBehind 36 = .ok (.iconst 2, 1) := by decide +kernel
theorem dX1_numbersBehind_37 : decode cX1_numbersBehind 37 = .ok (.ireturn, 1) := by decide +kernel
theorem dX1_numbersBehind_38 : decode cX1_numbersBehind 38 = .ok (.iconst 4, 1) := by decide +kernel
theorem dX1_numbersBehind_39 : decode cX1_numbersBehind 39 = .ok (.ireturn, 1) := by decide +kernel
theorem dX1_numbersBehind_40 : decode cX1_numbersBehind 40 = .ok (.iconst 1, 1) := by decide +kernel
theorem dX1_numbersBehind_41 : decode cX1_numbersBehind 41 = .ok (.ireturn, 1) := by decide +kernel
theorem dX1_numbersBehind_42 : decode cX1_numbersBehind 42 = .ok (.iconst 0, 1) := by decide +kernel
theorem dX1_numbersBehind_43 : decode cX1_numbersBehind 43 = .ok (.ireturn, 1) := by decide +kernel
theorem dX1_figure_0 : decode cX1_figure 0 = .ok (.iload_n 0, 1) := by decide +kernel
theorem dX1_figure_1 : decode cX1_figure 1 = .ok (.bipush 48, 2) := by decide +kernel
theorem dX1_figure_3 : decode cX1_figure 3 = .ok (.if_icmp .lt 16, 3) := by decide +kernel
theorem dX1_figure_6 : decode cX1_figure 6 = .ok (.iload_n 0, 1) := by decide +kernel
theorem dX1_figure_7 : decode cX1_figure 7 = .ok (.bipush 57, 2) := by decide +kernel
theorem dX1_figure_9 : decode cX1_figure 9 = .ok (.if_icmp .gt 10, 3) := by decide +kernel
theorem dX1_figure_12 : decode cX1_figure 12 = .ok (.iload_n 0, 1) := by decide +kernel
theorem dX1_figure_13 : decode cX1_figure 13 = .ok (.bipush 48, 2) := by decide +kernel
theorem dX1_figure_15 : decode cX1_figure 15 = .ok (.isub, 1) := by decide +kernel
theorem dX1_figure_16 : decode cX1_figure 16 = .ok (.goto 4, 3) := by decide +kernel
theorem dX1_figure_19 : decode cX1_figure 19 = .ok (.iconst (-1), 1) := by decide +kernel
theorem dX1_figure_20 : decode cX1_figure 20 = .ok (.ireturn, 1) := by decide +kernel
theorem dX2_init_0 : decode cX2_init 0 = .ok (.aload_n 0, 1) := by decide +kernel
theorem dX2_init_1 : decode cX2_init 1 = .ok (.invokespecial 5, 3) := by decide +kernel
theorem dX2_init_4 : decode cX2_init 4 = .ok (.aload_n 0, 1) := by decide +kernel
theorem dX2_init_5 : decode cX2_init 5 = .ok (.new 11, 3) := by decide +kernel
theorem dX2_init_8 : decode cX2_init 8 = .ok (.dup, 1) := by decide +kernel
theorem dX2_init_9 : decode cX2_init 9 = .ok (.invokespecial 13, 3) := by decide +kernel
theorem dX2_init_12 : decode cX2_init 12 = .ok (.putfield 14, 3) := by decide +kernel
theorem dX2_init_15 : decode cX2_init 15 = .ok (.aload_n 0, 1) := by decide +kernel
theorem dX2_init_16 : decode cX2_init 16 = .ok (.bipush 6, 2) := by decide +kernel
theorem dX2_init_18 : decode cX2_init 18 = .ok (.anewarray 18, 3) := by decide +kernel
theorem dX2_init_21 : decode cX2_init 21 = .ok (.putfield 20, 3) := by decide +kernel
theorem dX2_init_24 : decode cX2_init 24 = .ok (.iconst 0, 1) := by decide +kernel
theorem dX2_init_25 : decode cX2_init 25 = .ok (.istore_n 1, 1) := by decide +kernel
theorem dX2_init_26 : decode cX2_init 26 = .ok (.iload_n 1, 1) := by decide +kernel
theorem dX2_init_27 : decode cX2_init 27 = .ok (.iconst 5, 1) := by decide +kernel
theorem dX2_init_28 : decode cX2_init 28 = .ok (.if_icmp .gt 22, 3) := by decide +kernel
theorem dX2_init_31 : decode cX2_init 31 = .ok (.aload_n 0, 1) := by decide +kernel
theorem dX2_init_32 : decode cX2_init 32 = .ok (.getfield 20, 3) := by decide +kernel
theorem dX2_init_35 : decode cX2_init 35 = .ok (.iload_n 1, 1) := by decide +kernel
theorem dX2_init_36 : decode cX2_init 36 = .ok (.new 18, 3) := by decide +kernel
theorem dX2_init_39 : decode cX2_init 39 = .ok (.dup, 1) := by decide +kernel
theorem dX2_init_40 : decode cX2_init 40 = .ok (.invokespecial 24, 3) := by decide +kernel
theorem dX2_init_43 : decode cX2_init 43 = .ok (.aastore, 1) := by decide +kernel
theorem dX2_init_44 : decode cX2_init 44 = .ok (.iinc 1 1, 3) := by decide +kernel
theorem dX2_init_47 : decode cX2_init 47 = .ok (.goto (-21), 3) := by decide +kernel
theorem dX2_init_50 : decode cX2_init 50 = .ok (.return_, 1) := by decide +kernel
theorem dX2_findFirst_0 : decode cX2_findFirst 0 = .ok (.aload_n 0, 1) := by decide +kernel
theorem dX2_findFirst_1 : decode cX2_findFirst 1 = .ok (.iload_n 3, 1) := by decide +kernel
theorem dX2_findFirst_2 : decode cX2_findFirst 2 = .ok (.iconst 5, 1) := by decide +kernel
theorem dX2_findFirst_3 : decode cX2_findFirst 3 = .ok (.invokestatic 25, 3) := by decide +kernel
theorem dX2_findFirst_6 : decode cX2_findFirst 6 = .ok (.putfield 31, 3) := by decide +kernel
theorem dX2_findFirst_9 : decode cX2_findFirst 9 = .ok (.aload_n 0, 1) := by decide +kernel
theorem dX2_findFirst_10 : decode cX2_findFirst 10 = .ok (.ldc 35, 2) := by decide +kernel
theorem dX2_findFirst_12 : decode cX2_findFirst 12 = .ok (.putfield 36, 3) := by decide +kernel
theorem dX2_findFirst_15 : decode cX2_findFirst 15 = .ok (.aload_n 0, 1) := by decide +kernel
theorem dX2_findFirst_16 : decode cX2_findFirst 16 = .ok (.aload_n 1, 1) := by decide +kernel
theorem dX2_findFirst_17 : decode cX2_findFirst 17 = .ok (.aload_n 2, 1) := by decide +kernel
theorem dX2_findFirst_18 : decode cX2_findFirst 18 = .ok (.invokevirtual 39, 3) := by decide +kernel
theorem dX2_findFirst_21 : decode cX2_findFirst 21 = .ok (.ifCond .eq 5, 3) := by decide +kernel
theorem dX2_findFirst_24 : decode cX2_findFirst 24 = .ok (.iconst 0, 1) := by decide +kernel
theorem dX2_findFirst_25 : decode cX2_findFirst 25 = .ok (.ireturn, 1) := by decide +kernel
theorem dX2_findFirst_26 : decode cX2_findFirst 26 = .ok (.aload_n 0, 1) := by decide +kernel
theorem dX2_findFirst_27 : decode cX2_findFirst 27 = .ok (.getfield 20, 3) := by decide +kernel
theorem dX2_findFirst_30 : decode cX2_findFirst 30 = .ok (.iconst 0, 1) := by decide +kernel
theorem dX2_findFirst_31 : decode cX2_findFirst 31 = .ok (.aaload, 1) := by decide +kernel
theorem dX2_findFirst_32 : decode cX2_findFirst 32 = .ok (.aload_n 2, 1) := by decide +kernel
theorem dX2_findFirst_33 : decode cX2_findFirst 33 = .ok (.invokevirtual 43, 3) := by decide +kernel
theorem dX2_findFirst_36 : decode cX2_findFirst 36 = .ok (.aload_n 0, 1) := by decide +kernel
theorem dX2_findFirst_37 : decode cX2_findFirst 37 = .ok (.aload_n 1, 1) := by decide +kernel
theorem dX2_findFirst_38 : decode cX2_findFirst 38 = .ok (.iconst 0, 1) := by decide +kernel
theorem dX2_findFirst_39 : decode cX2_findFirst 39 = .ok (.aload_n 2, 1) := by decide +kernel
theorem dX2_findFirst_40 : decode cX2_findFirst 40 = .ok (.getfield 47, 3) := by decide +kernel
theorem dX2_findFirst_43 : decode cX2_findFirst 43 = .ok (.iconst 0, 1) := by decide +kernel
theorem dX2_findFirst_44 : decode cX2_findFirst 44 = .ok (.invokevirtual 50, 3) := by decide +kernel
theorem dX2_findFirst_47 : decode cX2_findFirst 47 = .ok (.aload_n 0, 1) := by decide +kernel
theorem dX2_findFirst_48 : decode cX2_findFirst 48 = .ok (.getfield 36, 3) := by decide +kernel
theorem dX2_findFirst_51 : decode cX2_findFirst 51 = .ok (.ldc 35, 2) := by decide +kernel
theorem dX2_findFirst_53 : decode cX2_findFirst 53 = .ok (.if_icmp .eq 7, 3) := by decide +kernel
theorem dX2_findFirst_56 : decode cX2_findFirst 56 = .ok (.iconst 1, 1) := by decide +kernel
theorem dX2_findFirst_57 : decode cX2_findFirst 57 = .ok (.goto 4, 3) := by decide +kernel
theorem dX2_findFirst_60 : decode cX2_findFirst 60 = .ok (.iconst 0, 1) := by decide +kernel
theorem dX2_findFirst_61 : decode cX2_findFirst 61 = .ok (.ireturn, 1) := by decide +kernel
theorem dX2_isHopeless_0 : decode cX2_isHopeless 0 = .ok (.aload_n 0, 1) := by decide +kernel
theorem dX2_isHopeless_1 : decode cX2_isHopeless 1 = .ok (.getfield 20, 3) := by decide +kernel
theorem dX2_isHopeless_4 : decode cX2_isHopeless 4 = .ok (.iconst 0, 1) := by decide +kernel
theorem dX2_isHopeless_5 : decode cX2_isHopeless 5 = .ok (.aaload, 1) := by decide +kernel
theorem dX2_isHopeless_6 : decode cX2_isHopeless 6 = .ok (.astore_n 3, 1) := by decide +kernel
theorem dX2_isHopeless_7 : decode cX2_isHopeless 7 = .ok (.aload_n 3, 1) := by decide +kernel
theorem dX2_isHopeless_8 : decode cX2_isHopeless 8 = .ok (.aload_n 2, 1) := by decide +kernel
theorem dX2_isHopeless_9 : decode cX2_isHopeless 9 = .ok (.invokevirtual 43, 3) := by decide +kernel
theorem dX2_isHopeless_12 : decode cX2_isHopeless 12 = .ok (.iconst 0, 1) := by decide +kernel
theorem dX2_isHopeless_13 : decode cX2_isHopeless 13 = .ok (.istore 4, 2) := by decide +kernel
theorem dX2_isHopeless_15 : decode cX2_isHopeless 15 = .ok (.iload 4, 2) := by decide +kernel
theorem dX2_isHopeless_17 : decode cX2_isHopeless 17 = .ok (.aload_n 0, 1) := by decide +kernel
theorem dX2_isHopeless_18 : decode cX2_isHopeless 18 = .ok (.getfield 31, 3) := by decide +kernel
theorem dX2_isHopeless_21 : decode cX2_isHopeless 21 = .ok (.if_icmp .ge 31, 3) := by decide +kernel
theorem dX2_isHopeless_24 : decode cX2_isHopeless 24 = .ok (.aload_n 3, 1) := by decide +kernel
theorem dX2_isHopeless_25 : decode cX2_isHopeless 25 = .ok (.aload_n 2, 1) := by decide +kernel
theorem dX2_isHopeless_26 : decode cX2_isHopeless 26 = .ok (.getfield 47, 3) := by decide +kernel
theorem dX2_isHopeless_29 : decode cX2_isHopeless 29 = .ok (.putfield 47, 3) := by decide +kernel
theorem dX2_isHopeless_32 : decode cX2_isHopeless 32 = .ok (.aload_n 0, 1) := by decide +kernel
theorem dX2_isHopeless_33 : decode cX2_isHopeless 33 = .ok (.getfield 14, 3) := by decide +kernel
theorem dX2_isHopeless_36 : decode cX2_isHopeless 36 = .ok (.aload_n 1, 1) := by decide +kernel
theorem dX2_isHopeless_37 : decode cX2_isHopeless 37 = .ok (.aload_n 3, 1) := by decide +kernel
theorem dX2_isHopeless_38 : decode cX2_isHopeless 38 = .ok (.invokevirtual 54, 3) := by decide +kernel
theorem dX2_isHopeless_41 : decode cX2_isHopeless 41 = .ok (.ifCond .eq 5, 3) := by decide +kernel
theorem dX2_isHopeless_44 : decode cX2_isHopeless 44 = .ok (.iconst 1, 1) := by decide +kernel
theorem dX2_isHopeless_45 : decode cX2_isHopeless 45 = .ok (.ireturn, 1) := by decide +kernel
theorem dX2_isHopeless_46 : decode cX2_isHopeless 46 = .ok (.iinc 4 1, 3) := by decide +kernel
theorem dX2_isHopeless_49 : decode cX2_isHopeless 49 = .ok (.goto (-34), 3) := by decide +kernel
theorem dX2_isHopeless_52 : decode cX2_isHopeless 52 = .ok (.iconst 0, 1) := by decide +kernel
theorem dX2_isHopeless_53 : decode cX2_isHopeless 53 = .ok (.ireturn, 1) := by decide +kernel
theorem dX2_hourOf_0 : decode cX2_hourOf 0 = .ok (.aload_n 0, 1) := by decide +kernel
theorem dX2_hourOf_1 : decode cX2_hourOf 1 = .ok (.getfield 36, 3) := by decide +kernel
theorem dX2_hourOf_4 : decode cX2_hourOf 4 = .ok (.iload_n 1, 1) := by decide +kernel
theorem dX2_hourOf_5 : decode cX2_hourOf 5 = .ok (.invokestatic 58, 3) := by decide +kernel
theorem dX2_hourOf_8 : decode cX2_hourOf 8 = .ok (.ishr, 1) := by decide +kernel
theorem dX2_hourOf_9 : decode cX2_hourOf 9 = .ok (.bipush 7, 2) := by decide +kernel
theorem dX2_hourOf_11 : decode cX2_hourOf 11 = .ok (.iand, 1) := by decide +kernel
theorem dX2_hourOf_12 : decode cX2_hourOf 12 = .ok (.ireturn, 1) := by decide +kernel
theorem dX2_tryHour_0 : decode cX2_tryHour 0 = .ok (.iload 4, 2) := by decide +kernel
theorem dX2_tryHour_2 : decode cX2_tryHour 2 = .ok (.aload_n 0, 1) := by decide +kernel
theorem dX2_tryHour_3 : decode cX2_tryHour 3 = .ok (.getfield 36, 3) := by decide +kernel
theorem dX2_tryHour_6 : decode cX2_tryHour 6 = .ok (.if_icmp .lt 4, 3) := by decide +kernel
theorem dX2_tryHour_9 : decode cX2_tryHour 9 = .ok (.return_, 1) := by decide +kernel
theorem dX2_tryHour_10 : decode cX2_tryHour 10 = .ok (.iload_n 2, 1) := by decide +kernel
theorem dX2_tryHour_11 : decode cX2_tryHour 11 = .ok (.aload_n 0, 1) := by decide +kernel
theorem dX2_tryHour_12 : decode cX2_tryHour 12 = .ok (.getfield 31, 3) := by decide +kernel
theorem dX2_tryHour_15 : decode cX2_tryHour 15 = .ok (.if_icmp .ge 8, 3) := by decide +kernel
theorem dX2_tryHour_18 : decode cX2_tryHour 18 = .ok (.iload_n 2, 1) := by decide +kernel
theorem dX2_tryHour_19 : decode cX2_tryHour 19 = .ok (.iconst 5, 1) := by decide +kernel
theorem dX2_tryHour_20 : decode cX2_tryHour 20 = .ok (.if_icmp .lt 10, 3) := by decide +kernel
theorem dX2_tryHour_23 : decode cX2_tryHour 23 = .ok (.aload_n 0, 1) := by decide +kernel
theorem dX2_tryHour_24 : decode cX2_tryHour 24 = .ok (.iload 4, 2) := by decide +kernel
theorem dX2_tryHour_26 : decode cX2_tryHour 26 = .ok (.putfield 36, 3) := by decide +kernel
theorem dX2_tryHour_29 : decode cX2_tryHour 29 = .ok (.return_, 1) := by decide +kernel
theorem dX2_tryHour_30 : decode cX2_tryHour 30 = .ok (.aload_n 0, 1) := by decide +kernel
theorem dX2_tryHour_31 : decode cX2_tryHour 31 = .ok (.getfield 20, 3) := by decide +kernel
theorem dX2_tryHour_34 : decode cX2_tryHour 34 = .ok (.iload_n 2, 1) := by decide +kernel
theorem dX2_tryHour_35 : decode cX2_tryHour 35 = .ok (.iconst 1, 1) := by decide +kernel
theorem dX2_tryHour_36 : decode cX2_tryHour 36 = .ok (.iadd, 1) := by decide +kernel
theorem dX2_tryHour_37 : decode cX2_tryHour 37 = .ok (.aaload, 1) := by decide +kernel
theorem dX2_tryHour_38 : decode cX2_tryHour 38 = .ok (.astore 5, 2) := by decide +kernel
theorem dX2_tryHour_40 : decode cX2_tryHour 40 = .ok (.iload_n 2, 1) := by decide +kernel
theorem dX2_tryHour_41 : decode cX2_tryHour 41 = .ok (.aload_n 0, 1) := by decide +kernel
theorem dX2_tryHour_42 : decode cX2_tryHour 42 = .ok (.getfield 31, 3) := by decide +kernel
theorem dX2_tryHour_45 : decode cX2_tryHour 45 = .ok (.iconst 1, 1) := by decide +kernel
theorem dX2_tryHour_46 : decode cX2_tryHour 46 = .ok (.isub, 1) := by decide +kernel
theorem dX2_tryHour_47 : decode cX2_tryHour 47 = .ok (.if_icmp .ne 7, 3) := by decide +kernel
theorem dX2_tryHour_50 : decode cX2_tryHour 50 = .ok (.iload_n 3, 1) := by decide +kernel
theorem dX2_tryHour_51 : decode cX2_tryHour 51 = .ok (.goto 4, 3) := by decide +kernel
theorem dX2_tryHour_54 : decode cX2_tryHour 54 = .ok (.iconst 0, 1) := by decide +kernel
theorem dX2_tryHour_55 : decode cX2_tryHour 55 = .ok (.istore 6, 2) := by decide +kernel
theorem dX2_tryHour_57 : decode cX2_tryHour 57 = .ok (.iload_n 3, 1) := by decide +kernel
theorem dX2_tryHour_58 : decode cX2_tryHour 58 = .ok (.istore 7, 2) := by decide +kernel
theorem dX2_tryHour_60 : decode cX2_tryHour 60 = .ok (.iload 7, 2) := by decide +kernel
theorem dX2_tryHour_62 : decode cX2_tryHour 62 = .ok (.iload 6, 2) := by decide +kernel
theorem dX2_tryHour_64 : decode cX2_tryHour 64 = .ok (.if_icmp .lt 109, 3) := by decide +kernel
theorem dX2_tryHour_67 : decode cX2_tryHour 67 = .ok (.iload 7, 2) := by decide +kernel
theorem dX2_tryHour_69 : decode cX2_tryHour 69 = .ok (.iload_n 3, 1) := by decide +kernel
theorem dX2_tryHour_70 : decode cX2_tryHour 70 = .ok (.invokestatic 62, 3) := by decide +kernel
theorem dX2_tryHour_73 : decode cX2_tryHour 73 = .ok (.ifCond .ne 6, 3) := by decide +kernel
theorem dX2_tryHour_76 : decode cX2_tryHour 76 = .ok (.goto 91, 3) := by decide +kernel
theorem dX2_tryHour_79 : decode cX2_tryHour 79 = .ok (.aload 5, 2) := by decide +kernel
theorem dX2_tryHour_81 : decode cX2_tryHour 81 = .ok (.aload_n 0, 1) := by decide +kernel
theorem dX2_tryHour_82 : decode cX2_tryHour 82 = .ok (.getfield 20, 3) := by decide +kernel
theorem dX2_tryHour_85 : decode cX2_tryHour 85 = .ok (.iload_n 2, 1) := by decide +kernel
theorem dX2_tryHour_86 : decode cX2_tryHour 86 = .ok (.aaload, 1) := by decide +kernel
theorem dX2_tryHour_87 : decode cX2_tryHour 87 = .ok (.invokevirtual 43, 3) := by decide +kernel
theorem dX2_tryHour_90 : decode cX2_tryHour 90 = .ok (.aload 5, 2) := by decide +kernel
theorem dX2_tryHour_92 : decode cX2_tryHour 92 = .ok (.dup, 1) := by decide +kernel
theorem dX2_tryHour_93 : decode cX2_tryHour 93 = .ok (.getfield 47, 3) := by decide +kernel
theorem dX2_tryHour_96 : decode cX2_tryHour 96 = .ok (.iload 7, 2) := by decide +kernel
theorem dX2_tryHour_98 : decode cX2_tryHour 98 = .ok (.iconst (-1), 1) := by decide +kernel
theorem dX2_tryHour_99 : decode cX2_tryHour 99 = .ok (.ixor, 1) := by decide +kernel
theorem dX2_tryHour_100 : decode cX2_tryHour 100 = .ok (.iand, 1) := by decide +kernel
theorem dX2_tryHour_101 : decode cX2_tryHour 101 = .ok (.putfield 47, 3) := by decide +kernel
theorem dX2_tryHour_104 : decode cX2_tryHour 104 = .ok (.aload_n 0, 1) := by decide +kernel
theorem dX2_tryHour_105 : decode cX2_tryHour 105 = .ok (.getfield 14, 3) := by decide +kernel
theorem dX2_tryHour_108 : decode cX2_tryHour 108 = .ok (.aload_n 1, 1) := by decide +kernel
theorem dX2_tryHour_109 : decode cX2_tryHour 109 = .ok (.aload 5, 2) := by decide +kernel
theorem dX2_tryHour_111 : decode cX2_tryHour 111 = .ok (.invokevirtual 54, 3) := by decide +kernel
theorem dX2_tryHour_114 : decode cX2_tryHour 114 = .ok (.ifCond .ne 7, 3) := by decide +kernel
theorem dX2_tryHour_117 : decode cX2_tryHour 117 = .ok (.iconst 1, 1) := by decide +kernel
theorem dX2_tryHour_118 : decode cX2_tryHour 118 = .ok (.goto 4, 3) := by decide +kernel
theorem dX2_tryHour_121 : decode cX2_tryHour 121 = .ok (.iconst 0, 1) := by decide +kernel
theorem dX2_tryHour_122 : decode cX2_tryHour 122 = .ok (.istore 8, 2) := by decide +kernel
theorem dX2_tryHour_124 : decode cX2_tryHour 124 = .ok (.aload 5, 2) := by decide +kernel
theorem dX2_tryHour_126 : decode cX2_tryHour 126 = .ok (.dup, 1) := by decide +kernel
theorem dX2_tryHour_127 : decode cX2_tryHour 127 = .ok (.getfield 47, 3) := by decide +kernel
theorem dX2_tryHour_130 : decode cX2_tryHour 130 = .ok (.iload 7, 2) := by decide +kernel
theorem dX2_tryHour_132 : decode cX2_tryHour 132 = .ok (.ior, 1) := by decide +kernel
theorem dX2_tryHour_133 : decode cX2_tryHour 133 = .ok (.putfield 47, 3) := by decide +kernel
theorem dX2_tryHour_136 : decode cX2_tryHour 136 = .ok (.iload 8, 2) := by decide +kernel
theorem dX2_tryHour_138 : decode cX2_tryHour 138 = .ok (.ifCond .eq 29, 3) := by decide +kernel
theorem dX2_tryHour_141 : decode cX2_tryHour 141 = .ok (.iload_n 3, 1) := by decide +kernel
theorem dX2_tryHour_142 : decode cX2_tryHour 142 = .ok (.iload 7, 2) := by decide +kernel
theorem dX2_tryHour_144 : decode cX2_tryHour 144 = .ok (.iconst (-1), 1) := by decide +kernel
theorem dX2_tryHour_145 : decode cX2_tryHour 145 = .ok (.ixor, 1) := by decide +kernel
theorem dX2_tryHour_146 : decode cX2_tryHour 146 = .ok (.iand, 1) := by decide +kernel
theorem dX2_tryHour_147 : decode cX2_tryHour 147 = .ok (.istore 9, 2) := by decide +kernel
theorem dX2_tryHour_149 : decode cX2_tryHour 149 = .ok (.aload_n 0, 1) := by decide +kernel
theorem dX2_tryHour_150 : decode cX2_tryHour 150 = .ok (.aload_n 1, 1) := by decide +kernel
theorem dX2_tryHour_151 : decode cX2_tryHour 151 = .ok (.iload_n 2, 1) := by decide +kernel
theorem dX2_tryHour_152 : decode cX2_tryHour 152 = .ok (.iconst 1, 1) := by decide +kernel
theorem dX2_tryHour_153 : decode cX2_tryHour 153 = .ok (.iadd, 1) := by decide +kernel
theorem dX2_tryHour_154 : decode cX2_tryHour 154 = .ok (.iload 9, 2) := by decide +kernel
theorem dX2_tryHour_156 : decode cX2_tryHour 156 = .ok (.iload 4, 2) := by decide +kernel
theorem dX2_tryHour_158 : decode cX2_tryHour 158 = .ok (.iload 9, 2) := by decide +kernel
theorem dX2_tryHour_160 : decode cX2_tryHour 160 = .ok (.invokestatic 66, 3) := by decide +kernel
theorem dX2_tryHour_163 : decode cX2_tryHour 163 = .ok (.iadd, 1) := by decide +kernel
theorem dX2_tryHour_164 : decode cX2_tryHour 164 = .ok (.invokevirtual 50, 3) := by decide +kernel
theorem dX2_tryHour_167 : decode cX2_tryHour 167 = .ok (.iinc 7 (-1), 3) := by decide +kernel
theorem dX2_tryHour_170 : decode cX2_tryHour 170 = .ok (.goto (-110), 3) := by decide +kernel
theorem dX2_tryHour_173 : decode cX2_tryHour 173 = .ok (.return_, 1) := by decide +kernel
theorem dX2_oneHourMore_0 : decode cX2_oneHourMore 0 = .ok (.iconst 0, 1) := by decide +kernel
theorem dX2_oneHourMore_1 : decode cX2_oneHourMore 1 = .ok (.istore_n 1, 1) := by decide +kernel
theorem dX2_oneHourMore_2 : decode cX2_oneHourMore 2 = .ok (.iconst 0, 1) := by decide +kernel
theorem dX2_oneHourMore_3 : decode cX2_oneHourMore 3 = .ok (.istore_n 2, 1) := by decide +kernel
theorem dX2_oneHourMore_4 : decode cX2_oneHourMore 4 = .ok (.iload_n 2, 1) := by decide +kernel
theorem dX2_oneHourMore_5 : decode cX2_oneHourMore 5 = .ok (.bipush 6, 2) := by decide +kernel
theorem dX2_oneHourMore_7 : decode cX2_oneHourMore 7 = .ok (.if_icmp .ge 30, 3) := by decide +kernel
theorem dX2_oneHourMore_10 : decode cX2_oneHourMore 10 = .ok (.iload_n 1, 1) := by decide +kernel
theorem dX2_oneHourMore_11 : decode cX2_oneHourMore 11 = .ok (.iload_n 0, 1) := by decide +kernel
theorem dX2_oneHourMore_12 : decode cX2_oneHourMore 12 = .ok (.iload_n 2, 1) := by decide +kernel
theorem dX2_oneHourMore_13 : decode cX2_oneHourMore 13 = .ok (.invokestatic 69, 3) := by decide +kernel
theorem dX2_oneHourMore_16 : decode cX2_oneHourMore 16 = .ok (.ifCond .eq 12, 3) := by decide +kernel
theorem dX2_oneHourMore_19 : decode cX2_oneHourMore 19 = .ok (.iconst 1, 1) := by decide +kernel
theorem dX2_oneHourMore_20 : decode cX2_oneHourMore 20 = .ok (.iload_n 2, 1) := by decide +kernel
theorem dX2_oneHourMore_21 : decode cX2_oneHourMore 21 = .ok (.invokestatic 58, 3) := by decide +kernel
theorem dX2_oneHourMore_24 : decode cX2_oneHourMore 24 = .ok (.ishl, 1) := by decide +kernel
theorem dX2_oneHourMore_25 : decode cX2_oneHourMore 25 = .ok (.goto 4, 3) := by decide +kernel
theorem dX2_oneHourMore_28 : decode cX2_oneHourMore 28 = .ok (.iconst 0, 1) := by decide +kernel
theorem dX2_oneHourMore_29 : decode cX2_oneHourMore 29 = .ok (.iadd, 1) := by decide +kernel
theorem dX2_oneHourMore_30 : decode cX2_oneHourMore 30 = .ok (.istore_n 1, 1) := by decide +kernel
theorem dX2_oneHourMore_31 : decode cX2_oneHourMore 31 = .ok (.iinc 2 1, 3) := by decide +kernel
theorem dX2_oneHourMore_34 : decode cX2_oneHourMore 34 = .ok (.goto (-30), 3) := by decide +kernel
theorem dX2_oneHourMore_37 : decode cX2_oneHourMore 37 = .ok (.iload_n 1, 1) := by decide +kernel
theorem dX2_oneHourMore_38 : decode cX2_oneHourMore 38 = .ok (.ireturn, 1) := by decide +kernel
theorem dX2_figurePlace_0 : decode cX2_figurePlace 0 = .ok (.iconst 3, 1) := by decide +kernel
theorem dX2_figurePlace_1 : decode cX2_figurePlace 1 = .ok (.iconst 5, 1) := by decide +kernel
theorem dX2_figurePlace_2 : decode cX2_figurePlace 2 = .ok (.iload_n 0, 1) := by decide +kernel
theorem dX2_figurePlace_3 : decode cX2_figurePlace 3 = .ok (.isub, 1) := by decide +kernel
theorem dX2_figurePlace_4 : decode cX2_figurePlace 4 = .ok (.imul, 1) := by decide +kernel
theorem dX2_figurePlace_5 : decode cX2_figurePlace 5 = .ok (.ireturn, 1) := by decide +kernel
theorem dX3_init_0 : decode cX3_init 0 = .ok (.aload_n 0, 1) := by decide +kernel
theorem dX3_init_1 : decode cX3_init 1 = .ok (.invokespecial 3, 3) := by decide +kernel
theorem dX3_init_4 : decode cX3_init 4 = .ok (.aload_n 0, 1) := by decide +kernel
theorem dX3_init_5 : decode cX3_init 5 = .ok (.bipush 6, 2) := by decide +kernel
theorem dX3_init_7 : decode cX3_init 7 = .ok (.newarray .int, 2) := by decide +kernel
theorem dX3_init_9 : decode cX3_init 9 = .ok (.putfield 9, 3) := by decide +kernel
theorem dX3_init_12 : decode cX3_init 12 = .ok (.aload_n 0, 1) := by decide +kernel
theorem dX3_init_13 : decode cX3_init 13 = .ok (.bipush 6, 2) := by decide +kernel
theorem dX3_init_15 : decode cX3_init 15 = .ok (.newarray .int, 2) := by decide +kernel
theorem dX3_init_17 : decode cX3_init 17 = .ok (.putfield 15, 3) := by decide +kernel
theorem dX3_init_20 : decode cX3_init 20 = .ok (.aload_n 0, 1) := by decide +kernel
theorem dX3_init_21 : decode cX3_init 21 = .ok (.bipush 8, 2) := by decide +kernel
theorem dX3_init_23 : decode cX3_init 23 = .ok (.newarray .int, 2) := by decide +kernel
theorem dX3_init_25 : decode cX3_init 25 = .ok (.putfield 18, 3) := by decide +kernel
theorem dX3_init_28 : decode cX3_init 28 = .ok (.return_, 1) := by decide +kernel
theorem dX3_begin_0 : decode cX3_begin 0 = .ok (.aload_n 0, 1) := by decide +kernel
theorem dX3_begin_1 : decode cX3_begin 1 = .ok (.iconst 0, 1) := by decide +kernel
theorem dX3_begin_2 : decode cX3_begin 2 = .ok (.putfield 21, 3) := by decide +kernel
theorem dX3_begin_5 : decode cX3_begin 5 = .ok (.aload_n 0, 1) := by decide +kernel
theorem dX3_begin_6 : decode cX3_begin 6 = .ok (.aload_n 1, 1) := by decide +kernel
theorem dX3_begin_7 : decode cX3_begin 7 = .ok (.invokevirtual 25, 3) := by decide +kernel
theorem dX3_begin_10 : decode cX3_begin 10 = .ok (.aload_n 1, 1) := by decide +kernel
theorem dX3_begin_11 : decode cX3_begin 11 = .ok (.getfield 31, 3) := by decide +kernel
theorem dX3_begin_14 : decode cX3_begin 14 = .ok (.iconst (-1), 1) := by decide +kernel
theorem dX3_begin_15 : decode cX3_begin 15 = .ok (.ixor, 1) := by decide +kernel
theorem dX3_begin_16 : decode cX3_begin 16 = .ok (.iand, 1) := by decide +kernel
theorem dX3_begin_17 : decode cX3_begin 17 = .ok (.putfield 34, 3) := by decide +kernel
theorem dX3_begin_20 : decode cX3_begin 20 = .ok (.aload_n 0, 1) := by decide +kernel
theorem dX3_begin_21 : decode cX3_begin 21 = .ok (.iconst 0, 1) := by decide +kernel
theorem dX3_begin_22 : decode cX3_begin 22 = .ok (.putfield 37, 3) := by decide +kernel
theorem dX3_begin_25 : decode cX3_begin 25 = .ok (.iconst 0, 1) := by decide +kernel
theorem dX3_begin_26 : decode cX3_begin 26 = .ok (.istore_n 2, 1) := by decide +kernel
theorem dX3_begin_27 : decode cX3_begin 27 = .ok (.iload_n 2, 1) := by decide +kernel
theorem dX3_begin_28 : decode cX3_begin 28 = .ok (.bipush 6, 2) := by decide +kernel
theorem dX3_begin_30 : decode cX3_begin 30 = .ok (.if_icmp .ge 28, 3) := by decide +kernel
theorem dX3_begin_33 : decode cX3_begin 33 = .ok (.aload_n 0, 1) := by decide +kernel
theorem dX3_begin_34 : decode cX3_begin 34 = .ok (.getfield 9, 3) := by decide +kernel
theorem dX3_begin_37 : decode cX3_begin 37 = .ok (.iload_n 2, 1) := by decide +kernel
theorem dX3_begin_38 : decode cX3_begin 38 = .ok (.aload_n 1, 1) := by decide +kernel
theorem dX3_begin_39 : decode cX3_begin 39 = .ok (.getfield 40, 3) := by decide +kernel
theorem dX3_begin_42 : decode cX3_begin 42 = .ok (.iload_n 2, 1) := by decide +kernel
theorem dX3_begin_43 : decode cX3_begin 43 = .ok (.iaload, 1) := by decide +kernel
theorem dX3_begin_44 : decode cX3_begin 44 = .ok (.iastore, 1) := by decide +kernel
theorem dX3_begin_45 : decode cX3_begin 45 = .ok (.aload_n 0, 1) := by decide +kernel
theorem dX3_begin_46 : decode cX3_begin 46 = .ok (.getfield 15, 3) := by decide +kernel
theorem dX3_begin_49 : decode cX3_begin 49 = .ok (.iload_n 2, 1) := by decide +kernel
theorem dX3_begin_50 : decode cX3_begin 50 = .ok (.iconst 0, 1) := by decide +kernel
theorem dX3_begin_51 : decode cX3_begin 51 = .ok (.iastore, 1) := by decide +kernel
theorem dX3_begin_52 : decode cX3_begin 52 = .ok (.iinc 2 1, 3) := by decide +kernel
theorem dX3_begin_55 : decode cX3_begin 55 = .ok (.goto (-28), 3) := by decide +kernel
theorem dX3_begin_58 : decode cX3_begin 58 = .ok (.iconst 0, 1) := by decide +kernel
theorem dX3_begin_59 : decode cX3_begin 59 = .ok (.istore_n 2, 1) := by decide +kernel
theorem dX3_begin_60 : decode cX3_begin 60 = .ok (.iload_n 2, 1) := by decide +kernel
theorem dX3_begin_61 : decode cX3_begin 61 = .ok (.bipush 8, 2) := by decide +kernel
theorem dX3_begin_63 : decode cX3_begin 63 = .ok (.if_icmp .ge 16, 3) := by decide +kernel
theorem dX3_begin_66 : decode cX3_begin 66 = .ok (.aload_n 0, 1) := by decide +kernel
theorem dX3_begin_67 : decode cX3_begin 67 = .ok (.getfield 18, 3) := by decide +kernel
theorem dX3_begin_70 : decode cX3_begin 70 = .ok (.iload_n 2, 1) := by decide +kernel
theorem dX3_begin_71 : decode cX3_begin 71 = .ok (.iconst 0, 1) := by decide +kernel
theorem dX3_begin_72 : decode cX3_begin 72 = .ok (.iastore, 1) := by decide +kernel
theorem dX3_begin_73 : decode cX3_begin 73 = .ok (.iinc 2 1, 3) := by decide +kernel
theorem dX3_begin_76 : decode cX3_begin 76 = .ok (.goto (-16), 3) := by decide +kernel
theorem dX3_begin_79 : decode cX3_begin 79 = .ok (.return_, 1) := by decide +kernel
theorem dX3_takeFrom_0 : decode cX3_takeFrom 0 = .ok (.aload_n 0, 1) := by decide +kernel
theorem dX3_takeFrom_1 : decode cX3_takeFrom 1 = .ok (.aload_n 1, 1) := by decide +kernel
theorem dX3_takeFrom_2 : decode cX3_takeFrom 2 = .ok (.getfield 21, 3) := by decide +kernel
theorem dX3_takeFrom_5 : decode cX3_takeFrom 5 = .ok (.putfield 21, 3) := by decide +kernel
theorem dX3_takeFrom_8 : decode cX3_takeFrom 8 = .ok (.aload_n 0, 1) := by decide +kernel
theorem dX3_takeFrom_9 : decode cX3_takeFrom 9 = .ok (.aload_n 1, 1) := by decide +kernel
theorem dX3_takeFrom_10 : decode cX3_takeFrom 10 = .ok (.getfield 34, 3) := by decide +kernel
theorem dX3_takeFrom_13 : decode cX3_takeFrom 13 = .ok (.putfield 34, 3) := by decide +kernel
theorem dX3_takeFrom_16 : decode cX3_takeFrom 16 = .ok (.aload_n 0, 1) := by decide +kernel
theorem dX3_takeFrom_17 : decode cX3_takeFrom 17 = .ok (.aload_n 1, 1) := by decide +kernel
theorem dX3_takeFrom_18 : decode cX3_takeFrom 18 = .ok (.getfield 37, 3) := by decide +kernel
theorem dX3_takeFrom_21 : decode cX3_takeFrom 21 = .ok (.putfield 37, 3) := by decide +kernel
theorem dX3_takeFrom_24 : decode cX3_takeFrom 24 = .ok (.aload_n 1, 1) := by decide +kernel
theorem dX3_takeFrom_25 : decode cX3_takeFrom 25 = .ok (.getfield 9, 3) := by decide +kernel
theorem dX3_takeFrom_28 : decode cX3_takeFrom 28 = .ok (.iconst 0, 1) := by decide +kernel
theorem dX3_takeFrom_29 : decode cX3_takeFrom 29 = .ok (.aload_n 0, 1) := by decide +kernel
theorem dX3_takeFrom_30 : decode cX3_takeFrom 30 = .ok (.getfield 9, 3) := by decide +kernel
theorem dX3_takeFrom_33 : decode cX3_takeFrom 33 = .ok (.iconst 0, 1) := by decide +kernel
theorem dX3_takeFrom_34 : decode cX3_takeFrom 34 = .ok (.bipush 6, 2) := by decide +kernel
theorem dX3_takeFrom_36 : decode cX3_takeFrom 36 = .ok (.invokestatic 43, 3) := by decide +kernel
theorem dX3_takeFrom_39 : decode cX3_takeFrom 39 = .ok (.aload_n 1, 1) := by decide +kernel
theorem dX3_takeFrom_40 : decode cX3_takeFrom 40 = .ok (.getfield 15, 3) := by decide +kernel
theorem dX3_takeFrom_43 : decode cX3_takeFrom 43 = .ok (.iconst 0, 1) := by decide +kernel
theorem dX3_takeFrom_44 : decode cX3_takeFrom 44 = .ok (.aload_n 0, 1) := by decide +kernel
theorem dX3_takeFrom_45 : decode cX3_takeFrom 45 = .ok (.getfield 15, 3) := by decide +kernel
theorem dX3_takeFrom_48 : decode cX3_takeFrom 48 = .ok (.iconst 0, 1) := by decide +kernel
theorem dX3_takeFrom_49 : decode cX3_takeFrom 49 = .ok (.bipush 6, 2) := by decide +kernel
theorem dX3_takeFrom_51 : decode cX3_takeFrom 51 = .ok (.invokestatic 43, 3) := by decide +kernel
theorem dX3_takeFrom_54 : decode cX3_takeFrom 54 = .ok (.aload_n 1, 1) := by decide +kernel
theorem dX3_takeFrom_55 : decode cX3_takeFrom 55 = .ok (.getfield 18, 3) := by decide +kernel
theorem dX3_takeFrom_58 : decode cX3_takeFrom 58 = .ok (.iconst 0, 1) := by decide +kernel
theorem dX3_takeFrom_59 : decode cX3_takeFrom 59 = .ok (.aload_n 0, 1) := by decide +kernel
theorem dX3_takeFrom_60 : decode cX3_takeFrom 60 = .ok (.getfield 18, 3) := by decide +kernel
theorem dX3_takeFrom_63 : decode cX3_takeFrom 63 = .ok (.iconst 0, 1) := by decide +kernel
theorem dX3_takeFrom_64 : decode cX3_takeFrom 64 = .ok (.bipush 8, 2) := by decide +kernel
theorem dX3_takeFrom_66 : decode cX3_takeFrom 66 = .ok (.invokestatic 43, 3) := by decide +kernel
theorem dX3_takeFrom_69 : decode cX3_takeFrom 69 = .ok (.return_, 1) := by decide +kernel
theorem dX3_isUp_0 : decode cX3_isUp 0 = .ok (.aload_n 0, 1) := by decide +kernel
theorem dX3_isUp_1 : decode cX3_isUp 1 = .ok (.getfield 34, 3) := by decide +kernel
theorem dX3_isUp_4 : decode cX3_isUp 4 = .ok (.iload_n 1, 1) := by decide +kernel
theorem dX3_isUp_5 : decode cX3_isUp 5 = .ok (.ishr, 1) := by decide +kernel
theorem dX3_isUp_6 : decode cX3_isUp 6 = .ok (.iconst 1, 1) := by decide +kernel
theorem dX3_isUp_7 : decode cX3_isUp 7 = .ok (.iand, 1) := by decide +kernel
theorem dX3_isUp_8 : decode cX3_isUp 8 = .ok (.iconst 1, 1) := by decide +kernel
theorem dX3_isUp_9 : decode cX3_isUp 9 = .ok (.if_icmp .ne 7, 3) := by decide +kernel
theorem dX3_isUp_12 : decode cX3_isUp 12 = .ok (.iconst 1, 1) := by decide +kernel
theorem dX3_isUp_13 : decode cX3_isUp 13 = .ok (.goto 4, 3) := by decide +kernel
theorem dX3_isUp_16 : decode cX3_isUp 16 = .ok (.iconst 0, 1) := by decide +kernel
theorem dX3_isUp_17 : decode cX3_isUp 17 = .ok (.ireturn, 1) := by decide +kernel
theorem dX3_hasFallen_0 : decode cX3_hasFallen 0 = .ok (.aload_n 0, 1) := by decide +kernel
theorem dX3_hasFallen_1 : decode cX3_hasFallen 1 = .ok (.getfield 37, 3) := by decide +kernel
theorem dX3_hasFallen_4 : decode cX3_hasFallen 4 = .ok (.iload_n 1, 1) := by decide +kernel
theorem dX3_hasFallen_5 : decode cX3_hasFallen 5 = .ok (.ishr, 1) := by decide +kernel
theorem dX3_hasFallen_6 : decode cX3_hasFallen 6 = .ok (.iconst 1, 1) := by decide +kernel
theorem dX3_hasFallen_7 : decode cX3_hasFallen 7 = .ok (.iand, 1) := by decide +kernel
theorem dX3_hasFallen_8 : decode cX3_hasFallen 8 = .ok (.iconst 1, 1) := by decide +kernel
theorem dX3_hasFallen_9 : decode cX3_hasFallen 9 = .ok (.if_icmp .ne 7, 3) := by decide +kernel
theorem dX3_hasFallen_12 : decode cX3_hasFallen 12 = .ok (.iconst 1, 1) := by decide +kernel
theorem dX3_hasFallen_13 : decode cX3_hasFallen 13 = .ok (.goto 4, 3) := by decide +kernel
theorem dX3_hasFallen_16 : decode cX3_hasFallen 16 = .ok (.iconst 0, 1) := by decide +kernel
theorem dX3_hasFallen_17 : decode cX3_hasFallen 17 = .ok (.ireturn, 1) := by decide +kernel
theorem dX3_comeDown_0 : decode cX3_comeDown 0 = .ok (.aload_n 0, 1) := by decide +kernel
theorem dX3_comeDown_1 : decode cX3_comeDown 1 = .ok (.dup, 1) := by decide +kernel
theorem dX3_comeDown_2 : decode cX3_comeDown 2 = .ok (.getfield 34, 3) := by decide +kernel
theorem dX3_comeDown_5 : decode cX3_comeDown 5 = .ok (.iconst 1, 1) := by decide +kernel
theorem dX3_comeDown_6 : decode cX3_comeDown 6 = .ok (.iload_n 1, 1) := by decide +kernel
theorem dX3_comeDown_7 : decode cX3_comeDown 7 = .ok (.ishl, 1) := by decide +kernel
theorem dX3_comeDown_8 : decode cX3_comeDown 8 = .ok (.iconst (-1), 1) := by decide +kernel
theorem dX3_comeDown_9 : decode cX3_comeDown 9 = .ok (.ixor, 1) := by decide +kernel
theorem dX3_comeDown_10 : decode cX3_comeDown 10 = .ok (.iand, 1) := by decide +kernel
theorem dX3_comeDown_11 : decode cX3_comeDown 11 = .ok (.putfield 34, 3) := by decide +kernel
theorem dX3_comeDown_14 : decode cX3_comeDown 14 = .ok (.return_, 1) := by decide +kernel
theorem dX3_goUp_0 : decode cX3_goUp 0 = .ok (.aload_n 0, 1) := by decide +kernel
theorem dX3_goUp_1 : decode cX3_goUp 1 = .ok (.dup, 1) := by decide +kernel
theorem dX3_goUp_2 : decode cX3_goUp 2 = .ok (.getfield 34, 3) := by decide +kernel
theorem dX3_goUp_5 : decode cX3_goUp 5 = .ok (.iconst 1, 1) := by decide +kernel
theorem dX3_goUp_6 : decode cX3_goUp 6 = .ok (.iload_n 1, 1) := by decide +kernel
theorem dX3_goUp_7 : decode cX3_goUp 7 = .ok (.ishl, 1) := by decide +kernel
theorem dX3_goUp_8 : decode cX3_goUp 8 = .ok (.ior, 1) := by decide +kernel
theorem dX3_goUp_9 : decode cX3_goUp 9 = .ok (.putfield 34, 3) := by decide +kernel
theorem dX3_goUp_12 : decode cX3_goUp 12 = .ok (.return_, 1) := by decide +kernel
theorem dX3_canComeDown_0 : decode cX3_canComeDown 0 = .ok (.aload_n 1, 1) := by decide +kernel
theorem dX3_canComeDown_1 : decode cX3_canComeDown 1 = .ok (.iload_n 2, 1) := by decide +kernel
theorem dX3_canComeDown_2 : decode cX3_canComeDown 2 = .ok (.invokevirtual 49, 3) := by decide +kernel
theorem dX3_canComeDown_5 : decode cX3_canComeDown 5 = .ok (.ifCond .eq 24, 3) := by decide +kernel
theorem dX3_canComeDown_8 : decode cX3_canComeDown 8 = .ok (.aload_n 0, 1) := by decide +kernel
theorem dX3_canComeDown_9 : decode cX3_canComeDown 9 = .ok (.iload_n 2, 1) := by decide +kernel
theorem dX3_canComeDown_10 : decode cX3_canComeDown 10 = .ok (.invokevirtual 53, 3) := by decide +kernel
theorem dX3_canComeDown_13 : decode cX3_canComeDown 13 = .ok (.ifCond .eq 16, 3) := by decide +kernel
theorem dX3_canComeDown_16 : decode cX3_canComeDown 16 = .ok (.aload_n 0, 1) := by decide +kernel
theorem dX3_canComeDown_17 : decode cX3_canComeDown 17 = .ok (.aload_n 1, 1) := by decide +kernel
theorem dX3_canComeDown_18 : decode cX3_canComeDown 18 = .ok (.iload_n 2, 1) := by decide +kernel
theorem dX3_canComeDown_19 : decode cX3_canComeDown 19 = .ok (.invokevirtual 56, 3) := by decide +kernel
theorem dX3_canComeDown_22 : decode cX3_canComeDown 22 = .ok (.ifCond .ne 7, 3) := by decide +kernel
theorem dX3_canComeDown_25 : decode cX3_canComeDown 25 = .ok (.iconst 1, 1) := by decide +kernel
theorem dX3_canComeDown_26 : decode cX3_canComeDown 26 = .ok (.goto 4, 3) := by decide +kernel
theorem dX3_canComeDown_29 : decode cX3_canComeDown 29 = .ok (.iconst 0, 1) := by decide +kernel
theorem dX3_canComeDown_30 : decode cX3_canComeDown 30 = .ok (.ireturn, 1) := by decide +kernel
theorem dX3_canGoUp_0 : decode cX3_canGoUp 0 = .ok (.aload_n 1, 1) := by decide +kernel
theorem dX3_canGoUp_1 : decode cX3_canGoUp 1 = .ok (.iload_n 2, 1) := by decide +kernel
theorem dX3_canGoUp_2 : decode cX3_canGoUp 2 = .ok (.invokevirtual 49, 3) := by decide +kernel
theorem dX3_canGoUp_5 : decode cX3_canGoUp 5 = .ok (.ifCond .eq 52, 3) := by decide +kernel
theorem dX3_canGoUp_8 : decode cX3_canGoUp 8 = .ok (.aload_n 0, 1) := by decide +kernel
theorem dX3_canGoUp_9 : decode cX3_canGoUp 9 = .ok (.iload_n 2, 1) := by decide +kernel
theorem dX3_canGoUp_10 : decode cX3_canGoUp 10 = .ok (.invokevirtual 53, 3) := by decide +kernel
theorem dX3_canGoUp_13 : decode cX3_canGoUp 13 = .ok (.ifCond .ne 44, 3) := by decide +kernel
theorem dX3_canGoUp_16 : decode cX3_canGoUp 16 = .ok (.aload_n 0, 1) := by decide +kernel
theorem dX3_canGoUp_17 : decode cX3_canGoUp 17 = .ok (.getfield 15, 3) := by decide +kernel
theorem dX3_canGoUp_20 : decode cX3_canGoUp 20 = .ok (.iload_n 2, 1) := by decide +kernel
theorem dX3_canGoUp_21 : decode cX3_canGoUp 21 = .ok (.iaload, 1) := by decide +kernel
theorem dX3_canGoUp_22 : decode cX3_canGoUp 22 = .ok (.aload_n 1, 1) := by decide +kernel
theorem dX3_canGoUp_23 : decode cX3_canGoUp 23 = .ok (.getfield 60, 3) := by decide +kernel
theorem dX3_canGoUp_26 : decode cX3_canGoUp 26 = .ok (.iload_n 2, 1) := by decide +kernel
theorem dX3_canGoUp_27 : decode cX3_canGoUp 27 = .ok (.iaload, 1) := by decide +kernel
theorem dX3_canGoUp_28 : decode cX3_canGoUp 28 = .ok (.if_icmp .ge 29, 3) := by decide +kernel
theorem dX3_canGoUp_31 : decode cX3_canGoUp 31 = .ok (.aload_n 0, 1) := by decide +kernel
theorem dX3_canGoUp_32 : decode cX3_canGoUp 32 = .ok (.aload_n 0, 1) := by decide +kernel
theorem dX3_canGoUp_33 : decode cX3_canGoUp 33 = .ok (.getfield 9, 3) := by decide +kernel
theorem dX3_canGoUp_36 : decode cX3_canGoUp 36 = .ok (.iload_n 2, 1) := by decide +kernel
theorem dX3_canGoUp_37 : decode cX3_canGoUp 37 = .ok (.iaload, 1) := by decide +kernel
theorem dX3_canGoUp_38 : decode cX3_canGoUp 38 = .ok (.invokevirtual 63, 3) := by decide +kernel
theorem dX3_canGoUp_41 : decode cX3_canGoUp 41 = .ok (.ifCond .ne 16, 3) := by decide +kernel
theorem dX3_canGoUp_44 : decode cX3_canGoUp 44 = .ok (.aload_n 0, 1) := by decide +kernel
theorem dX3_canGoUp_45 : decode cX3_canGoUp 45 = .ok (.aload_n 1, 1) := by decide +kernel
theorem dX3_canGoUp_46 : decode cX3_canGoUp 46 = .ok (.iload_n 2, 1) := by decide +kernel
theorem dX3_canGoUp_47 : decode cX3_canGoUp 47 = .ok (.invokevirtual 56, 3) := by decide +kernel
theorem dX3_canGoUp_50 : decode cX3_canGoUp 50 = .ok (.ifCond .ne 7, 3) := by decide +kernel
theorem dX3_canGoUp_53 : decode cX3_canGoUp 53 = .ok (.iconst 1, 1) := by decide +kernel
theorem dX3_canGoUp_54 : decode cX3_canGoUp 54 = .ok (.goto 4, 3) := by decide +kernel
theorem dX3_canGoUp_57 : decode cX3_canGoUp 57 = .ok (.iconst 0, 1) := by decide +kernel
theorem dX3_canGoUp_58 : decode cX3_canGoUp 58 = .ok (.ireturn, 1) := by decide +kernel
theorem dX3_isScared_0 : decode cX3_isScared 0 = .ok (.aload_n 1, 1) := by decide +kernel
theorem dX3_isScared_1 : decode cX3_isScared 1 = .ok (.iload_n 2, 1) := by decide +kernel
theorem dX3_isScared_2 : decode cX3_isScared 2 = .ok (.invokevirtual 49, 3) := by decide +kernel
theorem dX3_isScared_5 : decode cX3_isScared 5 = .ok (.ifCond .eq 28, 3) := by decide +kernel
theorem dX3_isScared_8 : decode cX3_isScared 8 = .ok (.aload_n 1, 1) := by decide +kernel
theorem dX3_isScared_9 : decode cX3_isScared 9 = .ok (.getfield 66, 3) := by decide +kernel
theorem dX3_isScared_12 : decode cX3_isScared 12 = .ok (.iload_n 2, 1) := by decide +kernel
theorem dX3_isScared_13 : decode cX3_isScared 13 = .ok (.iaload, 1) := by decide +kernel
theorem dX3_isScared_14 : decode cX3_isScared 14 = .ok (.iconst 3, 1) := by decide +kernel
theorem dX3_isScared_15 : decode cX3_isScared 15 = .ok (.if_icmp .ne 18, 3) := by decide +kernel
theorem dX3_isScared_18 : decode cX3_isScared 18 = .ok (.aload_n 1, 1) := by decide +kernel
theorem dX3_isScared_19 : decode cX3_isScared 19 = .ok (.aload_n 0, 1) := by decide +kernel
theorem dX3_isScared_20 : decode cX3_isScared 20 = .ok (.getfield 21, 3) := by decide +kernel
theorem dX3_isScared_23 : decode cX3_isScared 23 = .ok (.invokevirtual 69, 3) := by decide +kernel
theorem dX3_isScared_26 : decode cX3_isScared 26 = .ok (.ifCond .eq 7, 3) := by decide +kernel
theorem dX3_isScared_29 : decode cX3_isScared 29 = .ok (.iconst 1, 1) := by decide +kernel
theorem dX3_isScared_30 : decode cX3_isScared 30 = .ok (.goto 4, 3) := by decide +kernel
theorem dX3_isScared_33 : decode cX3_isScared 33 = .ok (.iconst 0, 1) := by decide +kernel
theorem dX3_isScared_34 : decode cX3_isScared 34 = .ok (.ireturn, 1) := by decide +kernel
theorem dX3_upAt_0 : decode cX3_upAt 0 = .ok (.iconst 0, 1) := by decide +kernel
theorem dX3_upAt_1 : decode cX3_upAt 1 = .ok (.istore_n 3, 1) := by decide +kernel
theorem dX3_upAt_2 : decode cX3_upAt 2 = .ok (.iconst 0, 1) := by decide +kernel
theorem dX3_upAt_3 : decode cX3_upAt 3 = .ok (.istore 4, 2) := by decide +kernel
theorem dX3_upAt_5 : decode cX3_upAt 5 = .ok (.iload 4, 2) := by decide +kernel
theorem dX3_upAt_7 : decode cX3_upAt 7 = .ok (.aload_n 1, 1) := by decide +kernel
theorem dX3_upAt_8 : decode cX3_upAt 8 = .ok (.getfield 72, 3) := by decide +kernel
theorem dX3_upAt_11 : decode cX3_upAt 11 = .ok (.if_icmp .ge 39, 3) := by decide +kernel
theorem dX3_upAt_14 : decode cX3_upAt 14 = .ok (.iload 4, 2) := by decide +kernel
theorem dX3_upAt_16 : decode cX3_upAt 16 = .ok (.bipush 6, 2) := by decide +kernel
theorem dX3_upAt_18 : decode cX3_upAt 18 = .ok (.if_icmp .ge 32, 3) := by decide +kernel
theorem dX3_upAt_21 : decode cX3_upAt 21 = .ok (.aload_n 0, 1) := by decide +kernel
theorem dX3_upAt_22 : decode cX3_upAt 22 = .ok (.iload 4, 2) := by decide +kernel
theorem dX3_upAt_24 : decode cX3_upAt 24 = .ok (.invokevirtual 53, 3) := by decide +kernel
theorem dX3_upAt_27 : decode cX3_upAt 27 = .ok (.ifCond .eq 17, 3) := by decide +kernel
theorem dX3_upAt_30 : decode cX3_upAt 30 = .ok (.aload_n 0, 1) := by decide +kernel
theorem dX3_upAt_31 : decode cX3_upAt 31 = .ok (.getfield 9, 3) := by decide +kernel
theorem dX3_upAt_34 : decode cX3_upAt 34 = .ok (.iload 4, 2) := by decide +kernel
theorem dX3_upAt_36 : decode cX3_upAt 36 = .ok (.iaload, 1) := by decide +kernel
theorem dX3_upAt_37 : decode cX3_upAt 37 = .ok (.iload_n 2, 1) := by decide +kernel
theorem dX3_upAt_38 : decode cX3_upAt 38 = .ok (.if_icmp .ne 6, 3) := by decide +kernel
theorem dX3_upAt_41 : decode cX3_upAt 41 = .ok (.iinc 3 1, 3) := by decide +kernel
theorem dX3_upAt_44 : decode cX3_upAt 44 = .ok (.iinc 4 1, 3) := by decide +kernel
theorem dX3_upAt_47 : decode cX3_upAt 47 = .ok (.goto (-42), 3) := by decide +kernel
theorem dX3_upAt_50 : decode cX3_upAt 50 = .ok (.iload_n 3, 1) := by decide +kernel
theorem dX3_upAt_51 : decode cX3_upAt 51 = .ok (.ireturn, 1) := by decide +kernel
theorem dX3_allAtStanding_0 : decode cX3_allAtStanding 0 = .ok (.iconst 0, 1) := by decide +kernel
theorem dX3_allAtStanding_1 : decode cX3_allAtStanding 1 = .ok (.istore_n 3, 1) := by decide +kernel
theorem dX3_allAtStanding_2 : decode cX3_allAtStanding 2 = .ok (.iload_n 3, 1) := by decide +kernel
theorem dX3_allAtStanding_3 : decode cX3_allAtStanding 3 = .ok (.aload_n 1, 1) := by decide +kernel
theorem dX3_allAtStanding_4 : decode cX3_allAtStanding 4 = .ok (.getfield 72, 3) := by decide +kernel
theorem dX3_allAtStanding_7 : decode cX3_allAtStanding 7 = .ok (.if_icmp .ge 38, 3) := by decide +kernel
theorem dX3_allAtStanding_10 : decode cX3_allAtStanding 10 = .ok (.iload_n 3, 1) := by decide +kernel
theorem dX3_allAtStanding_11 : decode cX3_allAtStanding 11 = .ok (.bipush 6, 2) := by decide +kernel
theorem dX3_allAtStanding_13 : decode cX3_allAtStanding 13 = .ok (.if_icmp .ge 32, 3) := by decide +kernel
theorem dX3_allAtStanding_16 : decode cX3_allAtStanding 16 = .ok (.iload_n 2, 1) := by decide +kernel
theorem dX3_allAtStanding_17 : decode cX3_allAtStanding 17 = .ok (.iload_n 3, 1) := by decide +kernel
theorem dX3_allAtStanding_18 : decode cX3_allAtStanding 18 = .ok (.invokestatic 75, 3) := by decide +kernel
theorem dX3_allAtStanding_21 : decode cX3_allAtStanding 21 = .ok (.ifCond .eq 18, 3) := by decide +kernel
theorem dX3_allAtStanding_24 : decode cX3_allAtStanding 24 = .ok (.aload_n 0, 1) := by decide +kernel
theorem dX3_allAtStanding_25 : decode cX3_allAtStanding 25 = .ok (.aload_n 0, 1) := by decide +kernel
theorem dX3_allAtStanding_26 : decode cX3_allAtStanding 26 = .ok (.getfield 9, 3) := by decide +kernel
theorem dX3_allAtStanding_29 : decode cX3_allAtStanding 29 = .ok (.iload_n 3, 1) := by decide +kernel
theorem dX3_allAtStanding_30 : decode cX3_allAtStanding 30 = .ok (.iaload, 1) := by decide +kernel
theorem dX3_allAtStanding_31 : decode cX3_allAtStanding 31 = .ok (.invokevirtual 63, 3) := by decide +kernel
theorem dX3_allAtStanding_34 : decode cX3_allAtStanding 34 = .ok (.ifCond .eq 5, 3) := by decide +kernel
theorem dX3_allAtStanding_37 : decode cX3_allAtStanding 37 = .ok (.iconst 0, 1) := by decide +kernel
theorem dX3_allAtStanding_38 : decode cX3_allAtStanding 38 = .ok (.ireturn, 1) := by decide +kernel
theorem dX3_allAtStanding_39 : decode cX3_allAtStanding 39 = .ok (.iinc 3 1, 3) := by decide +kernel
theorem dX3_allAtStanding_42 : decode cX3_allAtStanding 42 = .ok (.goto (-40), 3) := by decide +kernel
theorem dX3_allAtStanding_45 : decode cX3_allAtStanding 45 = .ok (.iconst 1, 1) := by decide +kernel
theorem dX3_allAtStanding_46 : decode cX3_allAtStanding 46 = .ok (.ireturn, 1) := by decide +kernel
theorem dX4_init_0 : decode cX4_init 0 = .ok (.aload_n 0, 1) := by decide +kernel
theorem dX4_init_1 : decode cX4_init 1 = .ok (.invokespecial 3, 3) := by decide +kernel
theorem dX4_init_4 : decode cX4_init 4 = .ok (.aload_n 0, 1) := by decide +kernel
theorem dX4_init_5 : decode cX4_init 5 = .ok (.sipush 200, 3) := by decide +kernel
theorem dX4_init_8 : decode cX4_init 8 = .ok (.newarray .char, 2) := by decide +kernel
theorem dX4_init_10 : decode cX4_init 10 = .ok (.putfield 9, 3) := by decide +kernel
theorem dX4_init_13 : decode cX4_init 13 = .ok (.return_, 1) := by decide +kernel
theorem dX4_add_0 : decode cX4_add 0 = .ok (.aload_n 0, 1) := by decide +kernel
theorem dX4_add_1 : decode cX4_add 1 = .ok (.getfield 15, 3) := by decide +kernel
theorem dX4_add_4 : decode cX4_add 4 = .ok (.ifCond .lt 13, 3) := by decide +kernel
theorem dX4_add_7 : decode cX4_add 7 = .ok (.aload_n 0, 1) := by decide +kernel
theorem dX4_add_8 : decode cX4_add 8 = .ok (.getfield 15, 3) := by decide +kernel
theorem dX4_add_11 : decode cX4_add 11 = .ok (.sipush 200, 3) := by decide +kernel
theorem dX4_add_14 : decode cX4_add 14 = .ok (.if_icmp .lt 5, 3) := by decide +kernel
theorem dX4_add_17 : decode cX4_add 17 = .ok (.iconst 0, 1) := by decide +kernel
theorem dX4_add_18 : decode cX4_add 18 = .ok (.ireturn, 1) := by decide +kernel
theorem dX4_add_19 : decode cX4_add 19 = .ok (.aload_n 0, 1) := by decide +kernel
theorem dX4_add_20 : decode cX4_add 20 = .ok (.getfield 9, 3) := by decide +kernel
theorem dX4_add_23 : decode cX4_add 23 = .ok (.aload_n 0, 1) := by decide +kernel
theorem dX4_add_24 : decode cX4_add 24 = .ok (.getfield 15, 3) := by decide +kernel
theorem dX4_add_27 : decode cX4_add 27 = .ok (.iload_n 1, 1) := by decide +kernel
theorem dX4_add_28 : decode cX4_add 28 = .ok (.castore, 1) := by decide +kernel
theorem dX4_add_29 : decode cX4_add 29 = .ok (.aload_n 0, 1) := by decide +kernel
theorem dX4_add_30 : decode cX4_add 30 = .ok (.dup, 1) := by decide +kernel
theorem dX4_add_31 : decode cX4_add 31 = .ok (.getfield 15, 3) := by decide +kernel
theorem dX4_add_34 : decode cX4_add 34 = .ok (.iconst 1, 1) := by decide +kernel
theorem dX4_add_35 : decode cX4_add 35 = .ok (.iadd, 1) := by decide +kernel
theorem dX4_add_36 : decode cX4_add 36 = .ok (.putfield 15, 3) := by decide +kernel
theorem dX4_add_39 : decode cX4_add 39 = .ok (.iconst 1, 1) := by decide +kernel
theorem dX4_add_40 : decode cX4_add 40 = .ok (.ireturn, 1) := by decide +kernel
theorem dX4_letterAt_0 : decode cX4_letterAt 0 = .ok (.iload_n 1, 1) := by decide +kernel
theorem dX4_letterAt_1 : decode cX4_letterAt 1 = .ok (.ifCond .lt 27, 3) := by decide +kernel
theorem dX4_letterAt_4 : decode cX4_letterAt 4 = .ok (.iload_n 1, 1) := by decide +kernel
theorem dX4_letterAt_5 : decode cX4_letterAt 5 = .ok (.aload_n 0, 1) := by decide +kernel
theorem dX4_letterAt_6 : decode cX4_letterAt 6 = .ok (.getfield 15, 3) := by decide +kernel
theorem dX4_letterAt_9 : decode cX4_letterAt 9 = .ok (.if_icmp .ge 19, 3) := by decide +kernel
theorem dX4_letterAt_12 : decode cX4_letterAt 12 = .ok (.iload_n 1, 1) := by decide +kernel
theorem dX4_letterAt_13 : decode cX4_letterAt 13 = .ok (.sipush 200, 3) := by decide +kernel
theorem dX4_letterAt_16 : decode cX4_letterAt 16 = .ok (.if_icmp .ge 12, 3) := by decide +kernel
theorem dX4_letterAt_19 : decode cX4_letterAt 19 = .ok (.aload_n 0, 1) := by decide +kernel
theorem dX4_letterAt_20 : decode cX4_letterAt 20 = .ok (.getfield 9, 3) := by decide +kernel
theorem dX4_letterAt_23 : decode cX4_letterAt 23 = .ok (.iload_n 1, 1) := by decide +kernel
theorem dX4_letterAt_24 : decode cX4_letterAt 24 = .ok (.caload, 1) := by decide +kernel
theorem dX4_letterAt_25 : decode cX4_letterAt 25 = .ok (.goto 4, 3) := by decide +kernel
theorem dX4_letterAt_28 : decode cX4_letterAt 28 = .ok (.iconst 0, 1) := by decide +kernel
theorem dX4_letterAt_29 : decode cX4_letterAt 29 = .ok (.ireturn, 1) := by decide +kernel
theorem dX5_init_0 : decode cX5_init 0 = .ok (.aload_n 0, 1) := by decide +kernel
theorem dX5_init_1 : decode cX5_init 1 = .ok (.invokespecial 3, 3) := by decide +kernel
theorem dX5_init_4 : decode cX5_init 4 = .ok (.aload_n 0, 1) := by decide +kernel
theorem dX5_init_5 : decode cX5_init 5 = .ok (.bipush 8, 2) := by decide +kernel
theorem dX5_init_7 : decode cX5_init 7 = .ok (.anewarray 9, 3) := by decide +kernel
theorem dX5_init_10 : decode cX5_init 10 = .ok (.putfield 11, 3) := by decide +kernel
theorem dX5_init_13 : decode cX5_init 13 = .ok (.iconst 0, 1) := by decide +kernel
theorem dX5_init_14 : decode cX5_init 14 = .ok (.istore_n 1, 1) := by decide +kernel
theorem dX5_init_15 : decode cX5_init 15 = .ok (.iload_n 1, 1) := by decide +kernel
theorem dX5_init_16 : decode cX5_init 16 = .ok (.bipush 8, 2) := by decide +kernel
theorem dX5_init_18 : decode cX5_init 18 = .ok (.if_icmp .ge 22, 3) := by decide +kernel
theorem dX5_init_21 : decode cX5_init 21 = .ok (.aload_n 0, 1) := by decide +kernel
theorem dX5_init_22 : decode cX5_init 22 = .ok (.getfield 11, 3) := by decide +kernel
theorem dX5_init_25 : decode cX5_init 25 = .ok (.iload_n 1, 1) := by decide +kernel
theorem dX5_init_26 : decode cX5_init 26 = .ok (.new 9, 3) := by decide +kernel
theorem dX5_init_29 : decode cX5_init 29 = .ok (.dup, 1) := by decide +kernel
theorem dX5_init_30 : decode cX5_init 30 = .ok (.invokespecial 17, 3) := by decide +kernel
theorem dX5_init_33 : decode cX5_init 33 = .ok (.aastore, 1) := by decide +kernel
theorem dX5_init_34 : decode cX5_init 34 = .ok (.iinc 1 1, 3) := by decide +kernel
theorem dX5_init_37 : decode cX5_init 37 = .ok (.goto (-22), 3) := by decide +kernel
theorem dX5_init_40 : decode cX5_init 40 = .ok (.return_, 1) := by decide +kernel
theorem dX5_remember_0 : decode cX5_remember 0 = .ok (.aload_n 0, 1) := by decide +kernel
theorem dX5_remember_1 : decode cX5_remember 1 = .ok (.getfield 11, 3) := by decide +kernel
theorem dX5_remember_4 : decode cX5_remember 4 = .ok (.aload_n 0, 1) := by decide +kernel
theorem dX5_remember_5 : decode cX5_remember 5 = .ok (.getfield 18, 3) := by decide +kernel
theorem dX5_remember_8 : decode cX5_remember 8 = .ok (.bipush 8, 2) := by decide +kernel
theorem dX5_remember_10 : decode cX5_remember 10 = .ok (.invokestatic 22, 3) := by decide +kernel
theorem dX5_remember_13 : decode cX5_remember 13 = .ok (.aaload, 1) := by decide +kernel
theorem dX5_remember_14 : decode cX5_remember 14 = .ok (.aload_n 1, 1) := by decide +kernel
theorem dX5_remember_15 : decode cX5_remember 15 = .ok (.invokevirtual 28, 3) := by decide +kernel
theorem dX5_remember_18 : decode cX5_remember 18 = .ok (.aload_n 0, 1) := by decide +kernel
theorem dX5_remember_19 : decode cX5_remember 19 = .ok (.dup, 1) := by decide +kernel
theorem dX5_remember_20 : decode cX5_remember 20 = .ok (.getfield 18, 3) := by decide +kernel
theorem dX5_remember_23 : decode cX5_remember 23 = .ok (.iconst 1, 1) := by decide +kernel
theorem dX5_remember_24 : decode cX5_remember 24 = .ok (.iadd, 1) := by decide +kernel
theorem dX5_remember_25 : decode cX5_remember 25 = .ok (.putfield 18, 3) := by decide +kernel
theorem dX5_remember_28 : decode cX5_remember 28 = .ok (.aload_n 0, 1) := by decide +kernel
theorem dX5_remember_29 : decode cX5_remember 29 = .ok (.aload_n 0, 1) := by decide +kernel
theorem dX5_remember_30 : decode cX5_remember 30 = .ok (.getfield 32, 3) := by decide +kernel
theorem dX5_remember_33 : decode cX5_remember 33 = .ok (.iconst 1, 1) := by decide +kernel
theorem dX5_remember_34 : decode cX5_remember 34 = .ok (.iadd, 1) := by decide +kernel
theorem dX5_remember_35 : decode cX5_remember 35 = .ok (.bipush 8, 2) := by decide +kernel
theorem dX5_remember_37 : decode cX5_remember 37 = .ok (.invokestatic 35, 3) := by decide +kernel
theorem dX5_remember_40 : decode cX5_remember 40 = .ok (.putfield 32, 3) := by decide +kernel
theorem dX5_remember_43 : decode cX5_remember 43 = .ok (.return_, 1) := by decide +kernel
theorem dX5_restore_0 : decode cX5_restore 0 = .ok (.aload_n 0, 1) := by decide +kernel
theorem dX5_restore_1 : decode cX5_restore 1 = .ok (.getfield 32, 3) := by decide +kernel
theorem dX5_restore_4 : decode cX5_restore 4 = .ok (.ifCond .gt 5, 3) := by decide +kernel
theorem dX5_restore_7 : decode cX5_restore 7 = .ok (.iconst 0, 1) := by decide +kernel
theorem dX5_restore_8 : decode cX5_restore 8 = .ok (.ireturn, 1) := by decide +kernel
theorem dX5_restore_9 : decode cX5_restore 9 = .ok (.aload_n 0, 1) := by decide +kernel
theorem dX5_restore_10 : decode cX5_restore 10 = .ok (.dup, 1) := by decide +kernel
theorem dX5_restore_11 : decode cX5_restore 11 = .ok (.getfield 18, 3) := by decide +kernel
theorem dX5_restore_14 : decode cX5_restore 14 = .ok (.iconst 1, 1) := by decide +kernel
theorem dX5_restore_15 : decode cX5_restore 15 = .ok (.isub, 1) := by decide +kernel
theorem dX5_restore_16 : decode cX5_restore 16 = .ok (.putfield 18, 3) := by decide +kernel
theorem dX5_restore_19 : decode cX5_restore 19 = .ok (.aload_n 0, 1) := by decide +kernel
theorem dX5_restore_20 : decode cX5_restore 20 = .ok (.dup, 1) := by decide +kernel
theorem dX5_restore_21 : decode cX5_restore 21 = .ok (.getfield 32, 3) := by decide +kernel
theorem dX5_restore_24 : decode cX5_restore 24 = .ok (.iconst 1, 1) := by decide +kernel
theorem dX5_restore_25 : decode cX5_restore 25 = .ok (.isub, 1) := by decide +kernel
theorem dX5_restore_26 : decode cX5_restore 26 = .ok (.putfield 32, 3) := by decide +kernel
theorem dX5_restore_29 : decode cX5_restore 29 = .ok (.aload_n 1, 1) := by decide +kernel
theorem dX5_restore_30 : decode cX5_restore 30 = .ok (.aload_n 0, 1) := by decide +kernel
theorem dX5_restore_31 : decode cX5_restore 31 = .ok (.getfield 11, 3) := by decide +kernel
theorem dX5_restore_34 : decode cX5_restore 34 = .ok (.aload_n 0, 1) := by decide +kernel
theorem dX5_restore_35 : decode cX5_restore 35 = .ok (.getfield 18, 3) := by decide +kernel
theorem dX5_restore_38 : decode cX5_restore 38 = .ok (.bipush 8, 2) := by decide +kernel
theorem dX5_restore_40 : decode cX5_restore 40 = .ok (.invokestatic 22, 3) := by decide +kernel
theorem dX5_restore_43 : decode cX5_restore 43 = .ok (.aaload, 1) := by decide +kernel
theorem dX5_restore_44 : decode cX5_restore 44 = .ok (.invokevirtual 28, 3) := by decide +kernel
theorem dX5_restore_47 : decode cX5_restore 47 = .ok (.iconst 1, 1) := by decide +kernel
theorem dX5_restore_48 : decode cX5_restore 48 = .ok (.ireturn, 1) := by decide +kernel
theorem dX5_forget_0 : decode cX5_forget 0 = .ok (.aload_n 0, 1) := by decide +kernel
theorem dX5_forget_1 : decode cX5_forget 1 = .ok (.iconst 0, 1) := by decide +kernel
theorem dX5_forget_2 : decode cX5_forget 2 = .ok (.putfield 32, 3) := by decide +kernel
theorem dX5_forget_5 : decode cX5_forget 5 = .ok (.return_, 1) := by decide +kernel
theorem dX6_init_0 : decode cX6_init 0 = .ok (.aload_n 0, 1) := by decide +kernel
theorem dX6_init_1 : decode cX6_init 1 = .ok (.invokespecial 3, 3) := by decide +kernel
theorem dX6_init_4 : decode cX6_init 4 = .ok (.aload_n 0, 1) := by decide +kernel
theorem dX6_init_5 : decode cX6_init 5 = .ok (.new 9, 3) := by decide +kernel
theorem dX6_init_8 : decode cX6_init 8 = .ok (.dup, 1) := by decide +kernel
theorem dX6_init_9 : decode cX6_init 9 = .ok (.invokespecial 11, 3) := by decide +kernel
theorem dX6_init_12 : decode cX6_init 12 = .ok (.putfield 12, 3) := by decide +kernel
theorem dX6_init_15 : decode cX6_init 15 = .ok (.aload_n 0, 1) := by decide +kernel
theorem dX6_init_16 : decode cX6_init 16 = .ok (.new 18, 3) := by decide +kernel
theorem dX6_init_19 : decode cX6_init 19 = .ok (.dup, 1) := by decide +kernel
theorem dX6_init_20 : decode cX6_init 20 = .ok (.invokespecial 20, 3) := by decide +kernel
theorem dX6_init_23 : decode cX6_init 23 = .ok (.putfield 21, 3) := by decide +kernel
theorem dX6_init_26 : decode cX6_init 26 = .ok (.return_, 1) := by decide +kernel
theorem dX6_startFrom_0 : decode cX6_startFrom 0 = .ok (.aload_n 0, 1) := by decide +kernel
theorem dX6_startFrom_1 : decode cX6_startFrom 1 = .ok (.getfield 12, 3) := by decide +kernel
theorem dX6_startFrom_4 : decode cX6_startFrom 4 = .ok (.aload_n 1, 1) := by decide +kernel
theorem dX6_startFrom_5 : decode cX6_startFrom 5 = .ok (.invokevirtual 25, 3) := by decide +kernel
theorem dX6_startFrom_8 : decode cX6_startFrom 8 = .ok (.aload_n 0, 1) := by decide +kernel
theorem dX6_startFrom_9 : decode cX6_startFrom 9 = .ok (.iconst 0, 1) := by decide +kernel
theorem dX6_startFrom_10 : decode cX6_startFrom 10 = .ok (.putfield 29, 3) := by decide +kernel
theorem dX6_startFrom_13 : decode cX6_startFrom 13 = .ok (.return_, 1) := by decide +kernel
theorem dX6_fallsBehind_0 : decode cX6_fallsBehind 0 = .ok (.iconst 0, 1) := by decide +kernel
theorem dX6_fallsBehind_1 : decode cX6_fallsBehind 1 = .ok (.istore_n 3, 1) := by decide +kernel
theorem dX6_fallsBehind_2 : decode cX6_fallsBehind 2 = .ok (.iload_n 3, 1) := by decide +kernel
theorem dX6_fallsBehind_3 : decode cX6_fallsBehind 3 = .ok (.iload_n 2, 1) := by decide +kernel
theorem dX6_fallsBehind_4 : decode cX6_fallsBehind 4 = .ok (.if_icmp .ge 36, 3) := by decide +kernel
theorem dX6_fallsBehind_7 : decode cX6_fallsBehind 7 = .ok (.aload_n 0, 1) := by decide +kernel
theorem dX6_fallsBehind_8 : decode cX6_fallsBehind 8 = .ok (.aload_n 0, 1) := by decide +kernel
theorem dX6_fallsBehind_9 : decode cX6_fallsBehind 9 = .ok (.getfield 21, 3) := by decide +kernel
theorem dX6_fallsBehind_12 : decode cX6_fallsBehind 12 = .ok (.aload_n 1, 1) := by decide +kernel
theorem dX6_fallsBehind_13 : decode cX6_fallsBehind 13 = .ok (.aload_n 0, 1) := by decide +kernel
theorem dX6_fallsBehind_14 : decode cX6_fallsBehind 14 = .ok (.getfield 12, 3) := by decide +kernel
theorem dX6_fallsBehind_17 : decode cX6_fallsBehind 17 = .ok (.invokevirtual 33, 3) := by decide +kernel
theorem dX6_fallsBehind_20 : decode cX6_fallsBehind 20 = .ok (.putfield 29, 3) := by decide +kernel
theorem dX6_fallsBehind_23 : decode cX6_fallsBehind 23 = .ok (.aload_n 0, 1) := by decide +kernel
theorem dX6_fallsBehind_24 : decode cX6_fallsBehind 24 = .ok (.getfield 29, 3) := by decide +kernel
theorem dX6_fallsBehind_27 : decode cX6_fallsBehind 27 = .ok (.ifCond .eq 7, 3) := by decide +kernel
theorem dX6_fallsBehind_30 : decode cX6_fallsBehind 30 = .ok (.iload_n 3, 1) := by decide +kernel
theorem dX6_fallsBehind_31 : decode cX6_fallsBehind 31 = .ok (.iconst 1, 1) := by decide +kernel
theorem dX6_fallsBehind_32 : decode cX6_fallsBehind 32 = .ok (.iadd, 1) := by decide +kernel
theorem dX6_fallsBehind_33 : decode cX6_fallsBehind 33 = .ok (.ireturn, 1) := by decide +kernel
theorem dX6_fallsBehind_34 : decode cX6_fallsBehind 34 = .ok (.iinc 3 1, 3) := by decide +kernel
theorem dX6_fallsBehind_37 : decode cX6_fallsBehind 37 = .ok (.goto (-35), 3) := by decide +kernel
theorem dX6_fallsBehind_40 : decode cX6_fallsBehind 40 = .ok (.bipush (-4), 2) := by decide +kernel
theorem dX6_fallsBehind_42 : decode cX6_fallsBehind 42 = .ok (.ireturn, 1) := by decide +kernel
theorem dX6_lowestFell_0 : decode cX6_lowestFell 0 = .ok (.aload_n 0, 1) := by decide +kernel
theorem dX6_lowestFell_1 : decode cX6_lowestFell 1 = .ok (.getfield 29, 3) := by decide +kernel
theorem dX6_lowestFell_4 : decode cX6_lowestFell 4 = .ok (.ifCond .ne 8, 3) := by decide +kernel
theorem dX6_lowestFell_7 : decode cX6_lowestFell 7 = .ok (.bipush (-4), 2) := by decide +kernel
theorem dX6_lowestFell_9 : decode cX6_lowestFell 9 = .ok (.goto 10, 3) := by decide +kernel
theorem dX6_lowestFell_12 : decode cX6_lowestFell 12 = .ok (.aload_n 0, 1) := by decide +kernel
theorem dX6_lowestFell_13 : decode cX6_lowestFell 13 = .ok (.getfield 29, 3) := by decide +kernel
theorem dX6_lowestFell_16 : decode cX6_lowestFell 16 = .ok (.invokestatic 37, 3) := by decide +kernel
theorem dX6_lowestFell_19 : decode cX6_lowestFell 19 = .ok (.ireturn, 1) := by decide +kernel
theorem dX6_standsFor_0 : decode cX6_standsFor 0 = .ok (.aload_n 0, 1) := by decide +kernel
theorem dX6_standsFor_1 : decode cX6_standsFor 1 = .ok (.aload_n 1, 1) := by decide +kernel
theorem dX6_standsFor_2 : decode cX6_standsFor 2 = .ok (.bipush 60, 2) := by decide +kernel
theorem dX6_standsFor_4 : decode cX6_standsFor 4 = .ok (.invokevirtual 43, 3) := by decide +kernel
theorem dX6_standsFor_7 : decode cX6_standsFor 7 = .ok (.istore_n 2, 1) := by decide +kernel
theorem dX6_standsFor_8 : decode cX6_standsFor 8 = .ok (.iload_n 2, 1) := by decide +kernel
theorem dX6_standsFor_9 : decode cX6_standsFor 9 = .ok (.bipush (-4), 2) := by decide +kernel
theorem dX6_standsFor_11 : decode cX6_standsFor 11 = .ok (.if_icmp .ne 8, 3) := by decide +kernel
theorem dX6_standsFor_14 : decode cX6_standsFor 14 = .ok (.bipush 61, 2) := by decide +kernel
theorem dX6_standsFor_16 : decode cX6_standsFor 16 = .ok (.goto 4, 3) := by decide +kernel
theorem dX6_standsFor_19 : decode cX6_standsFor 19 = .ok (.iload_n 2, 1) := by decide +kernel
theorem dX6_standsFor_20 : decode cX6_standsFor 20 = .ok (.ireturn, 1) := by decide +kernel
theorem dX6_givesWayBehind_0 : decode cX6_givesWayBehind 0 = .ok (.iconst 1, 1) := by decide +kernel
theorem dX6_givesWayBehind_1 : decode cX6_givesWayBehind 1 = .ok (.istore 4, 2) := by decide +kernel
theorem dX6_givesWayBehind_3 : decode cX6_givesWayBehind 3 = .ok (.iload 4, 2) := by decide +kernel
theorem dX6_givesWayBehind_5 : decode cX6_givesWayBehind 5 = .ok (.iload_n 3, 1) := by decide +kernel
theorem dX6_givesWayBehind_6 : decode cX6_givesWayBehind 6 = .ok (.if_icmp .gt 72, 3) := by decide +kernel
theorem dX6_givesWayBehind_9 : decode cX6_givesWayBehind 9 = .ok (.aload_n 0, 1) := by decide +kernel
theorem dX6_givesWayBehind_10 : decode cX6_givesWayBehind 10 = .ok (.getfield 21, 3) := by decide +kernel
theorem dX6_givesWayBehind_13 : decode cX6_givesWayBehind 13 = .ok (.aload_n 1, 1) := by decide +kernel
theorem dX6_givesWayBehind_14 : decode cX6_givesWayBehind 14 = .ok (.aload_n 0, 1) := by decide +kernel
theorem dX6_givesWayBehind_15 : decode cX6_givesWayBehind 15 = .ok (.getfield 12, 3) := by decide +kernel
theorem dX6_givesWayBehind_18 : decode cX6_givesWayBehind 18 = .ok (.invokevirtual 33, 3) := by decide +kernel
theorem dX6_givesWayBehind_21 : decode cX6_givesWayBehind 21 = .ok (.pop, 1) := by decide +kernel
theorem dX6_givesWayBehind_22 : decode cX6_givesWayBehind 22 = .ok (.aload_n 0, 1) := by decide +kernel
theorem dX6_givesWayBehind_23 : decode cX6_givesWayBehind 23 = .ok (.getfield 12, 3) := by decide +kernel
theorem dX6_givesWayBehind_26 : decode cX6_givesWayBehind 26 = .ok (.iload_n 2, 1) := by decide +kernel
theorem dX6_givesWayBehind_27 : decode cX6_givesWayBehind 27 = .ok (.invokevirtual 47, 3) := by decide +kernel
theorem dX6_givesWayBehind_30 : decode cX6_givesWayBehind 30 = .ok (.ifCond .ne 42, 3) := by decide +kernel
theorem dX6_givesWayBehind_33 : decode cX6_givesWayBehind 33 = .ok (.iload 4, 2) := by decide +kernel
theorem dX6_givesWayBehind_35 : decode cX6_givesWayBehind 35 = .ok (.iload_n 3, 1) := by decide +kernel
theorem dX6_givesWayBehind_36 : decode cX6_givesWayBehind 36 = .ok (.if_icmp .ne 34, 3) := by decide +kernel
theorem dX6_givesWayBehind_39 : decode cX6_givesWayBehind 39 = .ok (.aload_n 1, 1) := by decide +kernel
theorem dX6_givesWayBehind_40 : decode cX6_givesWayBehind 40 = .ok (.iload_n 2, 1) := by decide +kernel
theorem dX6_givesWayBehind_41 : decode cX6_givesWayBehind 41 = .ok (.invokevirtual 51, 3) := by decide +kernel
theorem dX6_givesWayBehind_44 : decode cX6_givesWayBehind 44 = .ok (.ifCond .eq 26, 3) := by decide +kernel
theorem dX6_givesWayBehind_47 : decode cX6_givesWayBehind 47 = .ok (.aload_n 0, 1) := by decide +kernel
theorem dX6_givesWayBehind_48 : decode cX6_givesWayBehind 48 = .ok (.getfield 12, 3) := by decide +kernel
theorem dX6_givesWayBehind_51 : decode cX6_givesWayBehind 51 = .ok (.aload_n 0, 1) := by decide +kernel
theorem dX6_givesWayBehind_52 : decode cX6_givesWayBehind 52 = .ok (.getfield 12, 3) := by decide +kernel
theorem dX6_givesWayBehind_55 : decode cX6_givesWayBehind 55 = .ok (.getfield 56, 3) := by decide +kernel
theorem dX6_givesWayBehind_58 : decode cX6_givesWayBehind 58 = .ok (.iload_n 2, 1) := by decide +kernel
theorem dX6_givesWayBehind_59 : decode cX6_givesWayBehind 59 = .ok (.iaload, 1) := by decide +kernel
theorem dX6_givesWayBehind_60 : decode cX6_givesWayBehind 60 = .ok (.invokevirtual 60, 3) := by decide +kernel
theorem dX6_givesWayBehind_63 : decode cX6_givesWayBehind 63 = .ok (.ifCond .ne 7, 3) := by decide +kernel
theorem dX6_givesWayBehind_66 : decode cX6_givesWayBehind 66 = .ok (.iconst 1, 1) := by decide +kernel
theorem dX6_givesWayBehind_67 : decode cX6_givesWayBehind 67 = .ok (.goto 4, 3) := by decide +kernel
theorem dX6_givesWayBehind_70 : decode cX6_givesWayBehind 70 = .ok (.iconst 0, 1) := by decide +kernel
theorem dX6_givesWayBehind_71 : decode cX6_givesWayBehind 71 = .ok (.ireturn, 1) := by decide +kernel
theorem dX6_givesWayBehind_72 : decode cX6_givesWayBehind 72 = .ok (.iinc 4 1, 3) := by decide +kernel
theorem dX6_givesWayBehind_75 : decode cX6_givesWayBehind 75 = .ok (.goto (-72), 3) := by decide +kernel
theorem dX6_givesWayBehind_78 : decode cX6_givesWayBehind 78 = .ok (.iconst 0, 1) := by decide +kernel
theorem dX6_givesWayBehind_79 : decode cX6_givesWayBehind 79 = .ok (.ireturn, 1) := by decide +kernel
theorem dX6_followDraw_0 : decode cX6_followDraw 0 = .ok (.aload_n 1, 1) := by decide +kernel
theorem dX6_followDraw_1 : decode cX6_followDraw 1 = .ok (.getfield 63, 3) := by decide +kernel
theorem dX6_followDraw_4 : decode cX6_followDraw 4 = .ok (.ifCond .le 10, 3) := by decide +kernel
theorem dX6_followDraw_7 : decode cX6_followDraw 7 = .ok (.aload_n 1, 1) := by decide +kernel
theorem dX6_followDraw_8 : decode cX6_followDraw 8 = .ok (.getfield 66, 3) := by decide +kernel
theorem dX6_followDraw_11 : decode cX6_followDraw 11 = .ok (.ifCond .gt 4, 3) := by decide +kernel
theorem dX6_followDraw_14 : decode cX6_followDraw 14 = .ok (.return_, 1) := by decide +kernel
theorem dX6_followDraw_15 : decode cX6_followDraw 15 = .ok (.iload_n 2, 1) := by decide +kernel
theorem dX6_followDraw_16 : decode cX6_followDraw 16 = .ok (.bipush 8, 2) := by decide +kernel
theorem dX6_followDraw_18 : decode cX6_followDraw 18 = .ok (.idiv, 1) := by decide +kernel
theorem dX6_followDraw_19 : decode cX6_followDraw 19 = .ok (.aload_n 1, 1) := by decide +kernel
theorem dX6_followDraw_20 : decode cX6_followDraw 20 = .ok (.getfield 63, 3) := by decide +kernel
theorem dX6_followDraw_23 : decode cX6_followDraw 23 = .ok (.irem, 1) := by decide +kernel
theorem dX6_followDraw_24 : decode cX6_followDraw 24 = .ok (.istore_n 3, 1) := by decide +kernel
theorem dX6_followDraw_25 : decode cX6_followDraw 25 = .ok (.aload_n 1, 1) := by decide +kernel
theorem dX6_followDraw_26 : decode cX6_followDraw 26 = .ok (.iload_n 3, 1) := by decide +kernel
theorem dX6_followDraw_27 : decode cX6_followDraw 27 = .ok (.invokevirtual 51, 3) := by decide +kernel
theorem dX6_followDraw_30 : decode cX6_followDraw 30 = .ok (.ifCond .ne 4, 3) := by decide +kernel
theorem dX6_followDraw_33 : decode cX6_followDraw 33 = .ok (.return_, 1) := by decide +kernel
theorem dX6_followDraw_34 : decode cX6_followDraw 34 = .ok (.iload_n 2, 1) := by decide +kernel
theorem dX6_followDraw_35 : decode cX6_followDraw 35 = .ok (.bipush 8, 2) := by decide +kernel
theorem dX6_followDraw_37 : decode cX6_followDraw 37 = .ok (.irem, 1) := by decide +kernel
theorem dX6_followDraw_38 : decode cX6_followDraw 38 = .ok (.istore 4, 2) := by decide +kernel
theorem dX6_followDraw_40 : decode cX6_followDraw 40 = .ok (.iload 4, 2) := by decide +kernel
theorem dX6_followDraw_42 : decode cX6_followDraw 42 = .ok (.ifCond .ne 26, 3) := by decide +kernel
theorem dX6_followDraw_45 : decode cX6_followDraw 45 = .ok (.aload_n 0, 1) := by decide +kernel
theorem dX6_followDraw_46 : decode cX6_followDraw 46 = .ok (.getfield 12, 3) := by decide +kernel
theorem dX6_followDraw_49 : decode cX6_followDraw 49 = .ok (.aload_n 1, 1) := by decide +kernel
theorem dX6_followDraw_50 : decode cX6_followDraw 50 = .ok (.iload_n 3, 1) := by decide +kernel
theorem dX6_followDraw_51 : decode cX6_followDraw 51 = .ok (.invokevirtual 69, 3) := by decide +kernel
theorem dX6_followDraw_54 : decode cX6_followDraw 54 = .ok (.ifCond .eq 14, 3) := by decide +kernel
theorem dX6_followDraw_57 : decode cX6_followDraw 57 = .ok (.aload_n 0, 1) := by decide +kernel
theorem dX6_followDraw_58 : decode cX6_followDraw 58 = .ok (.getfield 12, 3) := by decide +kernel
theorem dX6_followDraw_61 : decode cX6_followDraw 61 = .ok (.iload_n 3, 1) := by decide +kernel
theorem dX6_followDraw_62 : decode cX6_followDraw 62 = .ok (.invokevirtual 73, 3) := by decide +kernel
theorem dX6_followDraw_65 : decode cX6_followDraw 65 = .ok (.goto 73, 3) := by decide +kernel
theorem dX6_followDraw_68 : decode cX6_followDraw 68 = .ok (.iload 4, 2) := by decide +kernel
theorem dX6_followDraw_70 : decode cX6_followDraw 70 = .ok (.iconst 1, 1) := by decide +kernel
theorem dX6_followDraw_71 : decode cX6_followDraw 71 = .ok (.if_icmp .eq 9, 3) := by decide +kernel
theorem dX6_followDraw_74 : decode cX6_followDraw 74 = .ok (.iload 4, 2) := by decide +kernel
theorem dX6_followDraw_76 : decode cX6_followDraw 76 = .ok (.iconst 2, 1) := by decide +kernel
theorem dX6_followDraw_77 : decode cX6_followDraw 77 = .ok (.if_icmp .ne 26, 3) := by decide +kernel
theorem dX6_followDraw_80 : decode cX6_followDraw 80 = .ok (.aload_n 0, 1) := by decide +kernel
theorem dX6_followDraw_81 : decode cX6_followDraw 81 = .ok (.getfield 12, 3) := by decide +kernel
theorem dX6_followDraw_84 : decode cX6_followDraw 84 = .ok (.aload_n 1, 1) := by decide +kernel
theorem dX6_followDraw_85 : decode cX6_followDraw 85 = .ok (.iload_n 3, 1) := by decide +kernel
theorem dX6_followDraw_86 : decode cX6_followDraw 86 = .ok (.invokevirtual 77, 3) := by decide +kernel
theorem dX6_followDraw_89 : decode cX6_followDraw 89 = .ok (.ifCond .eq 14, 3) := by decide +kernel
theorem dX6_followDraw_92 : decode cX6_followDraw 92 = .ok (.aload_n 0, 1) := by decide +kernel
theorem dX6_followDraw_93 : decode cX6_followDraw 93 = .ok (.getfield 12, 3) := by decide +kernel
theorem dX6_followDraw_96 : decode cX6_followDraw 96 = .ok (.iload_n 3, 1) := by decide +kernel
theorem dX6_followDraw_97 : decode cX6_followDraw 97 = .ok (.invokevirtual 80, 3) := by decide +kernel
theorem dX6_followDraw_100 : decode cX6_followDraw 100 = .ok (.goto 38, 3) := by decide +kernel
theorem dX6_followDraw_103 : decode cX6_followDraw 103 = .ok (.iload 4, 2) := by decide +kernel
theorem dX6_followDraw_105 : decode cX6_followDraw 105 = .ok (.iconst 3, 1) := by decide +kernel
theorem dX6_followDraw_106 : decode cX6_followDraw 106 = .ok (.if_icmp .ne 32, 3) := by decide +kernel
theorem dX6_followDraw_109 : decode cX6_followDraw 109 = .ok (.aload_n 0, 1) := by decide +kernel
theorem dX6_followDraw_110 : decode cX6_followDraw 110 = .ok (.getfield 12, 3) := by decide +kernel
theorem dX6_followDraw_113 : decode cX6_followDraw 113 = .ok (.iload_n 3, 1) := by decide +kernel
theorem dX6_followDraw_114 : decode cX6_followDraw 114 = .ok (.invokevirtual 47, 3) := by decide +kernel
theorem dX6_followDraw_117 : decode cX6_followDraw 117 = .ok (.ifCond .ne 21, 3) := by decide +kernel
theorem dX6_followDraw_120 : decode cX6_followDraw 120 = .ok (.aload_n 0, 1) := by decide +kernel
theorem dX6_followDraw_121 : decode cX6_followDraw 121 = .ok (.getfield 12, 3) := by decide +kernel
theorem dX6_followDraw_124 : decode cX6_followDraw 124 = .ok (.getfield 56, 3) := by decide +kernel
theorem dX6_followDraw_127 : decode cX6_followDraw 127 = .ok (.iload_n 3, 1) := by decide +kernel
theorem dX6_followDraw_128 : decode cX6_followDraw 128 = .ok (.iload_n 2, 1) := by decide +kernel
theorem dX6_followDraw_129 : decode cX6_followDraw 129 = .ok (.bipush 64, 2) := by decide +kernel
theorem dX6_followDraw_131 : decode cX6_followDraw 131 = .ok (.idiv, 1) := by decide +kernel
theorem dX6_followDraw_132 : decode cX6_followDraw 132 = .ok (.aload_n 1, 1) := by decide +kernel
theorem dX6_followDraw_133 : decode cX6_followDraw 133 = .ok (.getfield 66, 3) := by decide +kernel
theorem dX6_followDraw_136 : decode cX6_followDraw 136 = .ok (.irem, 1) := by decide +kernel
theorem dX6_followDraw_137 : decode cX6_followDraw 137 = .ok (.iastore, 1) := by decide +kernel
theorem dX6_followDraw_138 : decode cX6_followDraw 138 = .ok (.return_, 1) := by decide +kernel
theorem dX7_init_0 : decode cX7_init 0 = .ok (.aload_n 0, 1) := by decide +kernel
theorem dX7_init_1 : decode cX7_init 1 = .ok (.invokespecial 3, 3) := by decide +kernel
theorem dX7_init_4 : decode cX7_init 4 = .ok (.aload_n 0, 1) := by decide +kernel
theorem dX7_init_5 : decode cX7_init 5 = .ok (.bipush 8, 2) := by decide +kernel
theorem dX7_init_7 : decode cX7_init 7 = .ok (.newarray .int, 2) := by decide +kernel
theorem dX7_init_9 : decode cX7_init 9 = .ok (.putfield 9, 3) := by decide +kernel
theorem dX7_init_12 : decode cX7_init 12 = .ok (.aload_n 0, 1) := by decide +kernel
theorem dX7_init_13 : decode cX7_init 13 = .ok (.bipush 8, 2) := by decide +kernel
theorem dX7_init_15 : decode cX7_init 15 = .ok (.newarray .int, 2) := by decide +kernel
theorem dX7_init_17 : decode cX7_init 17 = .ok (.putfield 15, 3) := by decide +kernel
theorem dX7_init_20 : decode cX7_init 20 = .ok (.aload_n 0, 1) := by decide +kernel
theorem dX7_init_21 : decode cX7_init 21 = .ok (.bipush 6, 2) := by decide +kernel
theorem dX7_init_23 : decode cX7_init 23 = .ok (.newarray .int, 2) := by decide +kernel
theorem dX7_init_25 : decode cX7_init 25 = .ok (.putfield 18, 3) := by decide +kernel
theorem dX7_init_28 : decode cX7_init 28 = .ok (.aload_n 0, 1) := by decide +kernel
theorem dX7_init_29 : decode cX7_init 29 = .ok (.bipush 6, 2) := by decide +kernel
theorem dX7_init_31 : decode cX7_init 31 = .ok (.newarray .int, 2) := by decide +kernel
theorem dX7_init_33 : decode cX7_init 33 = .ok (.putfield 21, 3) := by decide +kernel
theorem dX7_init_36 : decode cX7_init 36 = .ok (.aload_n 0, 1) := by decide +kernel
theorem dX7_init_37 : decode cX7_init 37 = .ok (.bipush 6, 2) := by decide +kernel
theorem dX7_init_39 : decode cX7_init 39 = .ok (.newarray .int, 2) := by decide +kernel
theorem dX7_init_41 : decode cX7_init 41 = .ok (.putfield 24, 3) := by decide +kernel
theorem dX7_init_44 : decode cX7_init 44 = .ok (.aload_n 0, 1) := by decide +kernel
theorem dX7_init_45 : decode cX7_init 45 = .ok (.bipush 6, 2) := by decide +kernel
theorem dX7_init_47 : decode cX7_init 47 = .ok (.newarray .int, 2) := by decide +kernel
theorem dX7_init_49 : decode cX7_init 49 = .ok (.putfield 27, 3) := by decide +kernel
theorem dX7_init_52 : decode cX7_init 52 = .ok (.return_, 1) := by decide +kernel
theorem dX7_clear_0 : decode cX7_clear 0 = .ok (.aload_n 0, 1) := by decide +kernel
theorem dX7_clear_1 : decode cX7_clear 1 = .ok (.iconst 0, 1) := by decide +kernel
theorem dX7_clear_2 : decode cX7_clear 2 = .ok (.putfield 30, 3) := by decide +kernel
theorem dX7_clear_5 : decode cX7_clear 5 = .ok (.aload_n 0, 1) := by decide +kernel
theorem dX7_clear_6 : decode cX7_clear 6 = .ok (.iconst 0, 1) := by decide +kernel
theorem dX7_clear_7 : decode cX7_clear 7 = .ok (.putfield 34, 3) := by decide +kernel
theorem dX7_clear_10 : decode cX7_clear 10 = .ok (.aload_n 0, 1) := by decide +kernel
theorem dX7_clear_11 : decode cX7_clear 11 = .ok (.iconst 0, 1) := by decide +kernel
theorem dX7_clear_12 : decode cX7_clear 12 = .ok (.putfield 37, 3) := by decide +kernel
theorem dX7_clear_15 : decode cX7_clear 15 = .ok (.aload_n 0, 1) := by decide +kernel
theorem dX7_clear_16 : decode cX7_clear 16 = .ok (.iconst 0, 1) := by decide +kernel
theorem dX7_clear_17 : decode cX7_clear 17 = .ok (.putfield 40, 3) := by decide +kernel
theorem dX7_clear_20 : decode cX7_clear 20 = .ok (.aload_n 0, 1) := by decide +kernel
theorem dX7_clear_21 : decode cX7_clear 21 = .ok (.iconst 0, 1) := by decide +kernel
theorem dX7_clear_22 : decode cX7_clear 22 = .ok (.putfield 43, 3) := by decide +kernel
theorem dX7_clear_25 : decode cX7_clear 25 = .ok (.return_, 1) := by decide +kernel
theorem dX7_takeFrom_0 : decode cX7_takeFrom 0 = .ok (.aload_n 0, 1) := by decide +kernel
theorem dX7_takeFrom_1 : decode cX7_takeFrom 1 = .ok (.aload_n 1, 1) := by decide +kernel
theorem dX7_takeFrom_2 : decode cX7_takeFrom 2 = .ok (.getfield 30, 3) := by decide +kernel
theorem dX7_takeFrom_5 : decode cX7_takeFrom 5 = .ok (.putfield 30, 3) := by decide +kernel
theorem dX7_takeFrom_8 : decode cX7_takeFrom 8 = .ok (.aload_n 0, 1) := by decide +kernel
theorem dX7_takeFrom_9 : decode cX7_takeFrom 9 = .ok (.aload_n 1, 1) := by decide +kernel
theorem dX7_takeFrom_10 : decode cX7_takeFrom 10 = .ok (.getfield 34, 3) := by decide +kernel
theorem dX7_takeFrom_13 : decode cX7_takeFrom 13 = .ok (.putfield 34, 3) := by decide +kernel
theorem dX7_takeFrom_16 : decode cX7_takeFrom 16 = .ok (.aload_n 0, 1) := by decide +kernel
theorem dX7_takeFrom_17 : decode cX7_takeFrom 17 = .ok (.aload_n 1, 1) := by decide +kernel
theorem dX7_takeFrom_18 : decode cX7_takeFrom 18 = .ok (.getfield 37, 3) := by decide +kernel
theorem dX7_takeFrom_21 : decode cX7_takeFrom 21 = .ok (.putfield 37, 3) := by decide +kernel
theorem dX7_takeFrom_24 : decode cX7_takeFrom 24 = .ok (.aload_n 0, 1) := by decide +kernel
theorem dX7_takeFrom_25 : decode cX7_takeFrom 25 = .ok (.aload_n 1, 1) := by decide +kernel
theorem dX7_takeFrom_26 : decode cX7_takeFrom 26 = .ok (.getfield 40, 3) := by decide +kernel
theorem dX7_takeFrom_29 : decode cX7_takeFrom 29 = .ok (.putfield 40, 3) := by decide +kernel
theorem dX7_takeFrom_32 : decode cX7_takeFrom 32 = .ok (.aload_n 0, 1) := by decide +kernel
theorem dX7_takeFrom_33 : decode cX7_takeFrom 33 = .ok (.aload_n 1, 1) := by decide +kernel
theorem dX7_takeFrom_34 : decode cX7_takeFrom 34 = .ok (.getfield 43, 3) := by decide +kernel
theorem dX7_takeFrom_37 : decode cX7_takeFrom 37 = .ok (.putfield 43, 3) := by decide +kernel
theorem dX7_takeFrom_40 : decode cX7_takeFrom 40 = .ok (.aload_n 1, 1) := by decide +kernel
theorem dX7_takeFrom_41 : decode cX7_takeFrom 41 = .ok (.getfield 9, 3) := by decide +kernel
theorem dX7_takeFrom_44 : decode cX7_takeFrom 44 = .ok (.iconst 0, 1) := by decide +kernel
theorem dX7_takeFrom_45 : decode cX7_takeFrom 45 = .ok (.aload_n 0, 1) := by decide +kernel
theorem dX7_takeFrom_46 : decode cX7_takeFrom 46 = .ok (.getfield 9, 3) := by decide +kernel
theorem dX7_takeFrom_49 : decode cX7_takeFrom 49 = .ok (.iconst 0, 1) := by decide +kernel
theorem dX7_takeFrom_50 : decode cX7_takeFrom 50 = .ok (.bipush 8, 2) := by decide +kernel
theorem dX7_takeFrom_52 : decode cX7_takeFrom 52 = .ok (.invokestatic 46, 3) := by decide +kernel
theorem dX7_takeFrom_55 : decode cX7_takeFrom 55 = .ok (.aload_n 1, 1) := by decide +kernel
theorem dX7_takeFrom_56 : decode cX7_takeFrom 56 = .ok (.getfield 15, 3) := by decide +kernel
theorem dX7_takeFrom_59 : decode cX7_takeFrom 59 = .ok (.iconst 0, 1) := by decide +kernel
theorem dX7_takeFrom_60 : decode cX7_takeFrom 60 = .ok (.aload_n 0, 1) := by decide +kernel
theorem dX7_takeFrom_61 : decode cX7_takeFrom 61 = .ok (.getfield 15, 3) := by decide +kernel
theorem dX7_takeFrom_64 : decode cX7_takeFrom 64 = .ok (.iconst 0, 1) := by decide +kernel
theorem dX7_takeFrom_65 : decode cX7_takeFrom 65 = .ok (.bipush 8, 2) := by decide +kernel
theorem dX7_takeFrom_67 : decode cX7_takeFrom 67 = .ok (.invokestatic 46, 3) := by decide +kernel
theorem dX7_takeFrom_70 : decode cX7_takeFrom 70 = .ok (.aload_n 1, 1) := by decide +kernel
theorem dX7_takeFrom_71 : decode cX7_takeFrom 71 = .ok (.getfield 18, 3) := by decide +kernel
theorem dX7_takeFrom_74 : decode cX7_takeFrom 74 = .ok (.iconst 0, 1) := by decide +kernel
theorem dX7_takeFrom_75 : decode cX7_takeFrom 75 = .ok (.aload_n 0, 1) := by decide +kernel
theorem dX7_takeFrom_76 : decode cX7_takeFrom 76 = .ok (.getfield 18, 3) := by decide +kernel
theorem dX7_takeFrom_79 : decode cX7_takeFrom 79 = .ok (.iconst 0, 1) := by decide +kernel
theorem dX7_takeFrom_80 : decode cX7_takeFrom 80 = .ok (.bipush 6, 2) := by decide +kernel
theorem dX7_takeFrom_82 : decode cX7_takeFrom 82 = .ok (.invokestatic 46, 3) := by decide +kernel
theorem dX7_takeFrom_85 : decode cX7_takeFrom 85 = .ok (.aload_n 1, 1) := by decide +kernel
theorem dX7_takeFrom_86 : decode cX7_takeFrom 86 = .ok (.getfield 21, 3) := by decide +kernel
theorem dX7_takeFrom_89 : decode cX7_takeFrom 89 = .ok (.iconst 0, 1) := by decide +kernel
theorem dX7_takeFrom_90 : decode cX7_takeFrom 90 = .ok (.aload_n 0, 1) := by decide +kernel
theorem dX7_takeFrom_91 : decode cX7_takeFrom 91 = .ok (.getfield 21, 3) := by decide +kernel
theorem dX7_takeFrom_94 : decode cX7_takeFrom 94 = .ok (.iconst 0, 1) := by decide +kernel
theorem dX7_takeFrom_95 : decode cX7_takeFrom 95 = .ok (.bipush 6, 2) := by decide +kernel
theorem dX7_takeFrom_97 : decode cX7_takeFrom 97 = .ok (.invokestatic 46, 3) := by decide +kernel
theorem dX7_takeFrom_100 : decode cX7_takeFrom 100 = .ok (.aload_n 1, 1) := by decide +kernel
theorem dX7_takeFrom_101 : decode cX7_takeFrom 101 = .ok (.getfield 24, 3) := by decide +kernel
theorem dX7_takeFrom_104 : decode cX7_takeFrom 104 = .ok (.iconst 0, 1) := by decide +kernel
theorem dX7_takeFrom_105 : decode cX7_takeFrom 105 = .ok (.aload_n 0, 1) := by decide +kernel
theorem dX7_takeFrom_106 : decode cX7_takeFrom 106 = .ok (.getfield 24, 3) := by decide +kernel
theorem dX7_takeFrom_109 : decode cX7_takeFrom 109 = .ok (.iconst 0, 1) := by decide +kernel
theorem dX7_takeFrom_110 : decode cX7_takeFrom 110 = .ok (.bipush 6, 2) := by decide +kernel
theorem dX7_takeFrom_112 : decode cX7_takeFrom 112 = .ok (.invokestatic 46, 3) := by decide +kernel
theorem dX7_takeFrom_115 : decode cX7_takeFrom 115 = .ok (.aload_n 1, 1) := by decide +kernel
theorem dX7_takeFrom_116 : decode cX7_takeFrom 116 = .ok (.getfield 27, 3) := by decide +kernel
theorem dX7_takeFrom_119 : decode cX7_takeFrom 119 = .ok (.iconst 0, 1) := by decide +kernel
theorem dX7_takeFrom_120 : decode cX7_takeFrom 120 = .ok (.aload_n 0, 1) := by decide +kernel
theorem dX7_takeFrom_121 : decode cX7_takeFrom 121 = .ok (.getfield 27, 3) := by decide +kernel
theorem dX7_takeFrom_124 : decode cX7_takeFrom 124 = .ok (.iconst 0, 1) := by decide +kernel
theorem dX7_takeFrom_125 : decode cX7_takeFrom 125 = .ok (.bipush 6, 2) := by decide +kernel
theorem dX7_takeFrom_127 : decode cX7_takeFrom 127 = .ok (.invokestatic 46, 3) := by decide +kernel
theorem dX7_takeFrom_130 : decode cX7_takeFrom 130 = .ok (.return_, 1) := by decide +kernel
theorem dX7_addBay_0 : decode cX7_addBay 0 = .ok (.aload_n 0, 1) := by decide +kernel
theorem dX7_addBay_1 : decode cX7_addBay 1 = .ok (.getfield 30, 3) := by decide +kernel
theorem dX7_addBay_4 : decode cX7_addBay 4 = .ok (.bipush 8, 2) := by decide +kernel
theorem dX7_addBay_6 : decode cX7_addBay 6 = .ok (.if_icmp .ge 15, 3) := by decide +kernel
theorem dX7_addBay_9 : decode cX7_addBay 9 = .ok (.iload_n 1, 1) := by decide +kernel
theorem dX7_addBay_10 : decode cX7_addBay 10 = .ok (.bipush 99, 2) := by decide +kernel
theorem dX7_addBay_12 : decode cX7_addBay 12 = .ok (.if_icmp .gt 9, 3) := by decide +kernel
theorem dX7_addBay_15 : decode cX7_addBay 15 = .ok (.iload_n 2, 1) := by decide +kernel
theorem dX7_addBay_16 : decode cX7_addBay 16 = .ok (.bipush 20, 2) := by decide +kernel
theorem dX7_addBay_18 : decode cX7_addBay 18 = .ok (.if_icmp .le 5, 3) := by decide +kernel
theorem dX7_addBay_21 : decode cX7_addBay 21 = .ok (.iconst 0, 1) := by decide +kernel
theorem dX7_addBay_22 : decode cX7_addBay 22 = .ok (.ireturn, 1) := by decide +kernel
theorem dX7_addBay_23 : decode cX7_addBay 23 = .ok (.aload_n 0, 1) := by decide +kernel
theorem dX7_addBay_24 : decode cX7_addBay 24 = .ok (.getfield 9, 3) := by decide +kernel
theorem dX7_addBay_27 : decode cX7_addBay 27 = .ok (.aload_n 0, 1) := by decide +kernel
theorem dX7_addBay_28 : decode cX7_addBay 28 = .ok (.getfield 30, 3) := by decide +kernel
theorem dX7_addBay_31 : decode cX7_addBay 31 = .ok (.iload_n 1, 1) := by decide +kernel
theorem dX7_addBay_32 : decode cX7_addBay 32 = .ok (.iastore, 1) := by decide +kernel
theorem dX7_addBay_33 : decode cX7_addBay 33 = .ok (.aload_n 0, 1) := by decide +kernel
theorem dX7_addBay_34 : decode cX7_addBay 34 = .ok (.getfield 15, 3) := by decide +kernel
theorem dX7_addBay_37 : decode cX7_addBay 37 = .ok (.aload_n 0, 1) := by decide +kernel
theorem dX7_addBay_38 : decode cX7_addBay 38 = .ok (.getfield 30, 3) := by decide +kernel
theorem dX7_addBay_41 : decode cX7_addBay 41 = .ok (.iload_n 2, 1) := by decide +kernel
theorem dX7_addBay_42 : decode cX7_addBay 42 = .ok (.iastore, 1) := by decide +kernel
theorem dX7_addBay_43 : decode cX7_addBay 43 = .ok (.aload_n 0, 1) := by decide +kernel
theorem dX7_addBay_44 : decode cX7_addBay 44 = .ok (.dup, 1) := by decide +kernel
theorem dX7_addBay_45 : decode cX7_addBay 45 = .ok (.getfield 30, 3) := by decide +kernel
theorem dX7_addBay_48 : decode cX7_addBay 48 = .ok (.iconst 1, 1) := by decide +kernel
theorem dX7_addBay_49 : decode cX7_addBay 49 = .ok (.iadd, 1) := by decide +kernel
theorem dX7_addBay_50 : decode cX7_addBay 50 = .ok (.putfield 30, 3) := by decide +kernel
theorem dX7_addBay_53 : decode cX7_addBay 53 = .ok (.iconst 1, 1) := by decide +kernel
theorem dX7_addBay_54 : decode cX7_addBay 54 = .ok (.ireturn, 1) := by decide +kernel
theorem dX7_addButtress_0 : decode cX7_addButtress 0 = .ok (.iload_n 1, 1) := by decide +kernel
theorem dX7_addButtress_1 : decode cX7_addButtress 1 = .ok (.iconst 3, 1) := by decide +kernel
theorem dX7_addButtress_2 : decode cX7_addButtress 2 = .ok (.if_icmp .gt 39, 3) := by decide +kernel
theorem dX7_addButtress_5 : decode cX7_addButtress 5 = .ok (.iload_n 2, 1) := by decide +kernel
theorem dX7_addButtress_6 : decode cX7_addButtress 6 = .ok (.iconst 1, 1) := by decide +kernel
theorem dX7_addButtress_7 : decode cX7_addButtress 7 = .ok (.if_icmp .lt 34, 3) := by decide +kernel
theorem dX7_addButtress_10 : decode cX7_addButtress 10 = .ok (.iload_n 2, 1) := by decide +kernel
theorem dX7_addButtress_11 : decode cX7_addButtress 11 = .ok (.bipush 99, 2) := by decide +kernel
theorem dX7_addButtress_13 : decode cX7_addButtress 13 = .ok (.if_icmp .gt 28, 3) := by decide +kernel
theorem dX7_addButtress_16 : decode cX7_addButtress 16 = .ok (.aload_n 0, 1) := by decide +kernel
theorem dX7_addButtress_17 : decode cX7_addButtress 17 = .ok (.iload_n 3, 1) := by decide +kernel
theorem dX7_addButtress_18 : decode cX7_addButtress 18 = .ok (.invokevirtual 52, 3) := by decide +kernel
theorem dX7_addButtress_21 : decode cX7_addButtress 21 = .ok (.ifCond .eq 20, 3) := by decide +kernel
theorem dX7_addButtress_24 : decode cX7_addButtress 24 = .ok (.iload 4, 2) := by decide +kernel
theorem dX7_addButtress_26 : decode cX7_addButtress 26 = .ok (.iconst 1, 1) := by decide +kernel
theorem dX7_addButtress_27 : decode cX7_addButtress 27 = .ok (.if_icmp .lt 14, 3) := by decide +kernel
theorem dX7_addButtress_30 : decode cX7_addButtress 30 = .ok (.iload 4, 2) := by decide +kernel
theorem dX7_addButtress_32 : decode cX7_addButtress 32 = .ok (.bipush 30, 2) := by decide +kernel
theorem dX7_addButtress_34 : decode cX7_addButtress 34 = .ok (.if_icmp .gt 7, 3) := by decide +kernel
theorem dX7_addButtress_37 : decode cX7_addButtress 37 = .ok (.iconst 1, 1) := by decide +kernel
theorem dX7_addButtress_38 : decode cX7_addButtress 38 = .ok (.goto 4, 3) := by decide +kernel
theorem dX7_addButtress_41 : decode cX7_addButtress 41 = .ok (.iconst 0, 1) := by decide +kernel
theorem dX7_addButtress_42 : decode cX7_addButtress 42 = .ok (.istore 5, 2) := by decide +kernel
theorem dX7_addButtress_44 : decode cX7_addButtress 44 = .ok (.aload_n 0, 1) := by decide +kernel
theorem dX7_addButtress_45 : decode cX7_addButtress 45 = .ok (.getfield 34, 3) := by decide +kernel
theorem dX7_addButtress_48 : decode cX7_addButtress 48 = .ok (.bipush 6, 2) := by decide +kernel
theorem dX7_addButtress_50 : decode cX7_addButtress 50 = .ok (.if_icmp .ge 8, 3) := by decide +kernel
theorem dX7_addButtress_53 : decode cX7_addButtress 53 = .ok (.iload 5, 2) := by decide +kernel
theorem dX7_addButtress_55 : decode cX7_addButtress 55 = .ok (.ifCond .ne 5, 3) := by decide +kernel
theorem dX7_addButtress_58 : decode cX7_addButtress 58 = .ok (.iconst 0, 1) := by decide +kernel
theorem dX7_addButtress_59 : decode cX7_addButtress 59 = .ok (.ireturn, 1) := by decide +kernel
theorem dX7_addButtress_60 : decode cX7_addButtress 60 = .ok (.aload_n 0, 1) := by decide +kernel
theorem dX7_addButtress_61 : decode cX7_addButtress 61 = .ok (.getfield 18, 3) := by decide +kernel
theorem dX7_addButtress_64 : decode cX7_addButtress 64 = .ok (.aload_n 0, 1) := by decide +kernel
theorem dX7_addButtress_65 : decode cX7_addButtress 65 = .ok (.getfield 34, 3) := by decide +kernel
theorem dX7_addButtress_68 : decode cX7_addButtress 68 = .ok (.iload_n 1, 1) := by decide +kernel
theorem dX7_addButtress_69 : decode cX7_addButtress 69 = .ok (.iastore, 1) := by decide +kernel
theorem dX7_addButtress_70 : decode cX7_addButtress 70 = .ok (.aload_n 0, 1) := by decide +kernel
theorem dX7_addButtress_71 : decode cX7_addButtress 71 = .ok (.getfield 21, 3) := by decide +kernel
theorem dX7_addButtress_74 : decode cX7_addButtress 74 = .ok (.aload_n 0, 1) := by decide +kernel
theorem dX7_addButtress_75 : decode cX7_addButtress 75 = .ok (.getfield 34, 3) := by decide +kernel
theorem dX7_addButtress_78 : decode cX7_addButtress 78 = .ok (.iload_n 2, 1) := by decide +kernel
theorem dX7_addButtress_79 : decode cX7_addButtress 79 = .ok (.iastore, 1) := by decide +kernel
theorem dX7_addButtress_80 : decode cX7_addButtress 80 = .ok (.aload_n 0, 1) := by decide +kernel
theorem dX7_addButtress_81 : decode cX7_addButtress 81 = .ok (.getfield 24, 3) := by decide +kernel
theorem dX7_addButtress_84 : decode cX7_addButtress 84 = .ok (.aload_n 0, 1) := by decide +kernel
theorem dX7_addButtress_85 : decode cX7_addButtress 85 = .ok (.getfield 34, 3) := by decide +kernel
theorem dX7_addButtress_88 : decode cX7_addButtress 88 = .ok (.iload_n 3, 1) := by decide +kernel
theorem dX7_addButtress_89 : decode cX7_addButtress 89 = .ok (.iastore, 1) := by decide +kernel
theorem dX7_addButtress_90 : decode cX7_addButtress 90 = .ok (.aload_n 0, 1) := by decide +kernel
theorem dX7_addButtress_91 : decode cX7_addButtress 91 = .ok (.getfield 27, 3) := by decide +kernel
theorem dX7_addButtress_94 : decode cX7_addButtress 94 = .ok (.aload_n 0, 1) := by decide +kernel
theorem dX7_addButtress_95 : decode cX7_addButtress 95 = .ok (.getfield 34, 3) := by decide +kernel
theorem dX7_addButtress_98 : decode cX7_addButtress 98 = .ok (.iload 4, 2) := by decide +kernel
theorem dX7_addButtress_100 : decode cX7_addButtress 100 = .ok (.iastore, 1) := by decide +kernel
theorem dX7_addButtress_101 : decode cX7_addButtress 101 = .ok (.aload_n 0, 1) := by decide +kernel
theorem dX7_addButtress_102 : decode cX7_addButtress 102 = .ok (.dup, 1) := by decide +kernel
theorem dX7_addButtress_103 : decode cX7_addButtress 103 = .ok (.getfield 34, 3) := by decide +kernel
theorem dX7_addButtress_106 : decode cX7_addButtress 106 = .ok (.iconst 1, 1) := by decide +kernel
theorem dX7_addButtress_107 : decode cX7_addButtress 107 = .ok (.iadd, 1) := by decide +kernel
theorem dX7_addButtress_108 : decode cX7_addButtress 108 = .ok (.putfield 34, 3) := by decide +kernel
theorem dX7_addButtress_111 : decode cX7_addButtress 111 = .ok (.iconst 1, 1) := by decide +kernel
theorem dX7_addButtress_112 : decode cX7_addButtress 112 = .ok (.ireturn, 1) := by decide +kernel
theorem dX7_addCarts_0 : decode cX7_addCarts 0 = .ok (.aload_n 0, 1) := by decide +kernel
theorem dX7_addCarts_1 : decode cX7_addCarts 1 = .ok (.getfield 37, 3) := by decide +kernel
theorem dX7_addCarts_4 : decode cX7_addCarts 4 = .ok (.bipush 12, 2) := by decide +kernel
theorem dX7_addCarts_6 : decode cX7_addCarts 6 = .ok (.if_icmp .ge 8, 3) := by decide +kernel
theorem dX7_addCarts_9 : decode cX7_addCarts 9 = .ok (.iload_n 1, 1) := by decide +kernel
theorem dX7_addCarts_10 : decode cX7_addCarts 10 = .ok (.iconst 1, 1) := by decide +kernel
theorem dX7_addCarts_11 : decode cX7_addCarts 11 = .ok (.if_icmp .le 5, 3) := by decide +kernel
theorem dX7_addCarts_14 : decode cX7_addCarts 14 = .ok (.iconst 0, 1) := by decide +kernel
theorem dX7_addCarts_15 : decode cX7_addCarts 15 = .ok (.ireturn, 1) := by decide +kernel
theorem dX7_addCarts_16 : decode cX7_addCarts 16 = .ok (.aload_n 0, 1) := by decide +kernel
theorem dX7_addCarts_17 : decode cX7_addCarts 17 = .ok (.dup, 1) := by decide +kernel
theorem dX7_addCarts_18 : decode cX7_addCarts 18 = .ok (.getfield 40, 3) := by decide +kernel
theorem dX7_addCarts_21 : decode cX7_addCarts 21 = .ok (.iload_n 1, 1) := by decide +kernel
theorem dX7_addCarts_22 : decode cX7_addCarts 22 = .ok (.aload_n 0, 1) := by decide +kernel
theorem dX7_addCarts_23 : decode cX7_addCarts 23 = .ok (.getfield 37, 3) := by decide +kernel
theorem dX7_addCarts_26 : decode cX7_addCarts 26 = .ok (.ishl, 1) := by decide +kernel
theorem dX7_addCarts_27 : decode cX7_addCarts 27 = .ok (.ior, 1) := by decide +kernel
theorem dX7_addCarts_28 : decode cX7_addCarts 28 = .ok (.putfield 40, 3) := by decide +kernel
theorem dX7_addCarts_31 : decode cX7_addCarts 31 = .ok (.aload_n 0, 1) := by decide +kernel
theorem dX7_addCarts_32 : decode cX7_addCarts 32 = .ok (.dup, 1) := by decide +kernel
theorem dX7_addCarts_33 : decode cX7_addCarts 33 = .ok (.getfield 37, 3) := by decide +kernel
theorem dX7_addCarts_36 : decode cX7_addCarts 36 = .ok (.iconst 1, 1) := by decide +kernel
theorem dX7_addCarts_37 : decode cX7_addCarts 37 = .ok (.iadd, 1) := by decide +kernel
theorem dX7_addCarts_38 : decode cX7_addCarts 38 = .ok (.putfield 37, 3) := by decide +kernel
theorem dX7_addCarts_41 : decode cX7_addCarts 41 = .ok (.iconst 1, 1) := by decide +kernel
theorem dX7_addCarts_42 : decode cX7_addCarts 42 = .ok (.ireturn, 1) := by decide +kernel
theorem dX7_addDown_0 : decode cX7_addDown 0 = .ok (.aload_n 0, 1) := by decide +kernel
theorem dX7_addDown_1 : decode cX7_addDown 1 = .ok (.iload_n 1, 1) := by decide +kernel
theorem dX7_addDown_2 : decode cX7_addDown 2 = .ok (.invokevirtual 56, 3) := by decide +kernel
theorem dX7_addDown_5 : decode cX7_addDown 5 = .ok (.ifCond .ne 5, 3) := by decide +kernel
theorem dX7_addDown_8 : decode cX7_addDown 8 = .ok (.iconst 0, 1) := by decide +kernel
theorem dX7_addDown_9 : decode cX7_addDown 9 = .ok (.ireturn, 1) := by decide +kernel
theorem dX7_addDown_10 : decode cX7_addDown 10 = .ok (.aload_n 0, 1) := by decide +kernel
theorem dX7_addDown_11 : decode cX7_addDown 11 = .ok (.dup, 1) := by decide +kernel
theorem dX7_addDown_12 : decode cX7_addDown 12 = .ok (.getfield 43, 3) := by decide +kernel
theorem dX7_addDown_15 : decode cX7_addDown 15 = .ok (.iconst 1, 1) := by decide +kernel
theorem dX7_addDown_16 : decode cX7_addDown 16 = .ok (.iload_n 1, 1) := by decide +kernel
theorem dX7_addDown_17 : decode cX7_addDown 17 = .ok (.ishl, 1) := by decide +kernel
theorem dX7_addDown_18 : decode cX7_addDown 18 = .ok (.ior, 1) := by decide +kernel
theorem dX7_addDown_19 : decode cX7_addDown 19 = .ok (.putfield 43, 3) := by decide +kernel
theorem dX7_addDown_22 : decode cX7_addDown 22 = .ok (.iconst 1, 1) := by decide +kernel
theorem dX7_addDown_23 : decode cX7_addDown 23 = .ok (.ireturn, 1) := by decide +kernel
theorem dX7_hasBay_0 : decode cX7_hasBay 0 = .ok (.iload_n 1, 1) := by decide +kernel
theorem dX7_hasBay_1 : decode cX7_hasBay 1 = .ok (.ifCond .lt 21, 3) := by decide +kernel
theorem dX7_hasBay_4 : decode cX7_hasBay 4 = .ok (.iload_n 1, 1) := by decide +kernel
theorem dX7_hasBay_5 : decode cX7_hasBay 5 = .ok (.aload_n 0, 1) := by decide +kernel
theorem dX7_hasBay_6 : decode cX7_hasBay 6 = .ok (.getfield 30, 3) := by decide +kernel
theorem dX7_hasBay_9 : decode cX7_hasBay 9 = .ok (.if_icmp .ge 13, 3) := by decide +kernel
theorem dX7_hasBay_12 : decode cX7_hasBay 12 = .ok (.iload_n 1, 1) := by decide +kernel
theorem dX7_hasBay_13 : decode cX7_hasBay 13 = .ok (.bipush 8, 2) := by decide +kernel
theorem dX7_hasBay_15 : decode cX7_hasBay 15 = .ok (.if_icmp .ge 7, 3) := by decide +kernel
theorem dX7_hasBay_18 : decode cX7_hasBay 18 = .ok (.iconst 1, 1) := by decide +kernel
theorem dX7_hasBay_19 : decode cX7_hasBay 19 = .ok (.goto 4, 3) := by decide +kernel
theorem dX7_hasBay_22 : decode cX7_hasBay 22 = .ok (.iconst 0, 1) := by decide +kernel
theorem dX7_hasBay_23 : decode cX7_hasBay 23 = .ok (.ireturn, 1) := by decide +kernel
theorem dX7_hasButtress_0 : decode cX7_hasButtress 0 = .ok (.iload_n 1, 1) := by decide +kernel
theorem dX7_hasButtress_1 : decode cX7_hasButtress 1 = .ok (.ifCond .lt 21, 3) := by decide +kernel
theorem dX7_hasButtress_4 : decode cX7_hasButtress 4 = .ok (.iload_n 1, 1) := by decide +kernel
theorem dX7_hasButtress_5 : decode cX7_hasButtress 5 = .ok (.aload_n 0, 1) := by decide +kernel
theorem dX7_hasButtress_6 : decode cX7_hasButtress 6 = .ok (.getfield 34, 3) := by decide +kernel
theorem dX7_hasButtress_9 : decode cX7_hasButtress 9 = .ok (.if_icmp .ge 13, 3) := by decide +kernel
theorem dX7_hasButtress_12 : decode cX7_hasButtress 12 = .ok (.iload_n 1, 1) := by decide +kernel
theorem dX7_hasButtress_13 : decode cX7_hasButtress 13 = .ok (.bipush 6, 2) := by decide +kernel
theorem dX7_hasButtress_15 : decode cX7_hasButtress 15 = .ok (.if_icmp .ge 7, 3) := by decide +kernel
theorem dX7_hasButtress_18 : decode cX7_hasButtress 18 = .ok (.iconst 1, 1) := by decide +kernel
theorem dX7_hasButtress_19 : decode cX7_hasButtress 19 = .ok (.goto 4, 3) := by decide +kernel
theorem dX7_hasButtress_22 : decode cX7_hasButtress 22 = .ok (.iconst 0, 1) := by decide +kernel
theorem dX7_hasButtress_23 : decode cX7_hasButtress 23 = .ok (.ireturn, 1) := by decide +kernel
theorem dX7_hasCarts_0 : decode cX7_hasCarts 0 = .ok (.aload_n 0, 1) := by decide +kernel
theorem dX7_hasCarts_1 : decode cX7_hasCarts 1 = .ok (.getfield 37, 3) := by decide +kernel
theorem dX7_hasCarts_4 : decode cX7_hasCarts 4 = .ok (.ifCond .le 25, 3) := by decide +kernel
theorem dX7_hasCarts_7 : decode cX7_hasCarts 7 = .ok (.aload_n 0, 1) := by decide +kernel
theorem dX7_hasCarts_8 : decode cX7_hasCarts 8 = .ok (.getfield 40, 3) := by decide +kernel
theorem dX7_hasCarts_11 : decode cX7_hasCarts 11 = .ok (.iload_n 1, 1) := by decide +kernel
theorem dX7_hasCarts_12 : decode cX7_hasCarts 12 = .ok (.aload_n 0, 1) := by decide +kernel
theorem dX7_hasCarts_13 : decode cX7_hasCarts 13 = .ok (.getfield 37, 3) := by decide +kernel
theorem dX7_hasCarts_16 : decode cX7_hasCarts 16 = .ok (.invokestatic 59, 3) := by decide +kernel
theorem dX7_hasCarts_19 : decode cX7_hasCarts 19 = .ok (.invokestatic 65, 3) := by decide +kernel
theorem dX7_hasCarts_22 : decode cX7_hasCarts 22 = .ok (.ifCond .eq 7, 3) := by decide +kernel
theorem dX7_hasCarts_25 : decode cX7_hasCarts 25 = .ok (.iconst 1, 1) := by decide +kernel
theorem dX7_hasCarts_26 : decode cX7_hasCarts 26 = .ok (.goto 4, 3) := by decide +kernel
theorem dX7_hasCarts_29 : decode cX7_hasCarts 29 = .ok (.iconst 0, 1) := by decide +kernel
theorem dX7_hasCarts_30 : decode cX7_hasCarts 30 = .ok (.ireturn, 1) := by decide +kernel
theorem dX7_allBays_0 : decode cX7_allBays 0 = .ok (.iconst 1, 1) := by decide +kernel
theorem dX7_allBays_1 : decode cX7_allBays 1 = .ok (.aload_n 0, 1) := by decide +kernel
theorem dX7_allBays_2 : decode cX7_allBays 2 = .ok (.getfield 30, 3) := by decide +kernel
theorem dX7_allBays_5 : decode cX7_allBays 5 = .ok (.ishl, 1) := by decide +kernel
theorem dX7_allBays_6 : decode cX7_allBays 6 = .ok (.iconst 1, 1) := by decide +kernel
theorem dX7_allBays_7 : decode cX7_allBays 7 = .ok (.isub, 1) := by decide +kernel
theorem dX7_allBays_8 : decode cX7_allBays 8 = .ok (.ireturn, 1) := by decide +kernel
theorem dX7_allButtresses_0 : decode cX7_allButtresses 0 = .ok (.iconst 1, 1) := by decide +kernel
theorem dX7_allButtresses_1 : decode cX7_allButtresses 1 = .ok (.aload_n 0, 1) := by decide +kernel
theorem dX7_allButtresses_2 : decode cX7_allButtresses 2 = .ok (.getfield 34, 3) := by decide +kernel
theorem dX7_allButtresses_5 : decode cX7_allButtresses 5 = .ok (.ishl, 1) := by decide +kernel
theorem dX7_allButtresses_6 : decode cX7_allButtresses 6 = .ok (.iconst 1, 1) := by decide +kernel
theorem dX7_allButtresses_7 : decode cX7_allButtresses 7 = .ok (.isub, 1) := by decide +kernel
theorem dX7_allButtresses_8 : decode cX7_allButtresses 8 = .ok (.ireturn, 1) := by decide +kernel
theorem dJ6_numberOfTrailingZeros_0f7a4_0 : decode cJ6_numberOfTrailingZeros_0f7a4 0 = .ok (.iload_n 0, 1) := by decide +kernel
theorem dJ6_numberOfTrailingZeros_0f7a4_1 : decode cJ6_numberOfTrailingZeros_0f7a4 1 = .ok (.iconst (-1), 1) := by decide +kernel
theorem dJ6_numberOfTrailingZeros_0f7a4_2 : decode cJ6_numberOfTrailingZeros_0f7a4 2 = .ok (.ixor, 1) := by decide +kernel
theorem dJ6_numberOfTrailingZeros_0f7a4_3 : decode cJ6_numberOfTrailingZeros_0f7a4 3 = .ok (.iload_n 0, 1) := by decide +kernel
theorem dJ6_numberOfTrailingZeros_0f7a4_4 : decode cJ6_numberOfTrailingZeros_0f7a4 4 = .ok (.iconst 1, 1) := by decide +kernel
theorem dJ6_numberOfTrailingZeros_0f7a4_5 : decode cJ6_numberOfTrailingZeros_0f7a4 5 = .ok (.isub, 1) := by decide +kernel
theorem dJ6_numberOfTrailingZeros_0f7a4_6 : decode cJ6_numberOfTrailingZeros_0f7a4 6 = .ok (.iand, 1) := by decide +kernel
theorem dJ6_numberOfTrailingZeros_0f7a4_7 : decode cJ6_numberOfTrailingZeros_0f7a4 7 = .ok (.istore_n 0, 1) := by decide +kernel
theorem dJ6_numberOfTrailingZeros_0f7a4_8 : decode cJ6_numberOfTrailingZeros_0f7a4 8 = .ok (.iload_n 0, 1) := by decide +kernel
theorem dJ6_numberOfTrailingZeros_0f7a4_9 : decode cJ6_numberOfTrailingZeros_0f7a4 9 = .ok (.ifCond .gt 8, 3) := by decide +kernel
theorem dJ6_numberOfTrailingZeros_0f7a4_12 : decode cJ6_numberOfTrailingZeros_0f7a4 12 = .ok (.iload_n 0, 1) := by decide +kernel
theorem dJ6_numberOfTrailingZeros_0f7a4_13 : decode cJ6_numberOfTrailingZeros_0f7a4 13 = .ok (.bipush 32, 2) := by decide +kernel
theorem dJ6_numberOfTrailingZeros_0f7a4_15 : decode cJ6_numberOfTrailingZeros_0f7a4 15 = .ok (.iand, 1) := by decide +kernel
theorem dJ6_numberOfTrailingZeros_0f7a4_16 : decode cJ6_numberOfTrailingZeros_0f7a4 16 = .ok (.ireturn, 1) := by decide +kernel
theorem dJ6_numberOfTrailingZeros_0f7a4_17 : decode cJ6_numberOfTrailingZeros_0f7a4 17 = .ok (.iconst 1, 1) := by decide +kernel
theorem dJ6_numberOfTrailingZeros_0f7a4_18 : decode cJ6_numberOfTrailingZeros_0f7a4 18 = .ok (.istore_n 1, 1) := by decide +kernel
theorem dJ6_numberOfTrailingZeros_0f7a4_19 : decode cJ6_numberOfTrailingZeros_0f7a4 19 = .ok (.iload_n 0, 1) := by decide +kernel
theorem dJ6_numberOfTrailingZeros_0f7a4_20 : decode cJ6_numberOfTrailingZeros_0f7a4 20 = .ok (.ldc_w 264, 3) := by decide +kernel
theorem dJ6_numberOfTrailingZeros_0f7a4_23 : decode cJ6_numberOfTrailingZeros_0f7a4 23 = .ok (.if_icmp .le 11, 3) := by decide +kernel
theorem dJ6_numberOfTrailingZeros_0f7a4_26 : decode cJ6_numberOfTrailingZeros_0f7a4 26 = .ok (.iinc 1 16, 3) := by decide +kernel
theorem dJ6_numberOfTrailingZeros_0f7a4_29 : decode cJ6_numberOfTrailingZeros_0f7a4 29 = .ok (.iload_n 0, 1) := by decide +kernel
theorem dJ6_numberOfTrailingZeros_0f7a4_30 : decode cJ6_numberOfTrailingZeros_0f7a4 30 = .ok (.bipush 16, 2) := by decide +kernel
theorem dJ6_numberOfTrailingZeros_0f7a4_32 : decode cJ6_numberOfTrailingZeros_0f7a4 32 = .ok (.iushr, 1) := by decide +kernel
theorem dJ6_numberOfTrailingZeros_0f7a4_33 : decode cJ6_numberOfTrailingZeros_0f7a4 33 = .ok (.istore_n 0, 1) := by decide +kernel
theorem dJ6_numberOfTrailingZeros_0f7a4_34 : decode cJ6_numberOfTrailingZeros_0f7a4 34 = .ok (.iload_n 0, 1) := by decide +kernel
theorem dJ6_numberOfTrailingZeros_0f7a4_35 : decode cJ6_numberOfTrailingZeros_0f7a4 35 = .ok (.sipush 256, 3) := by decide +kernel
theorem dJ6_numberOfTrailingZeros_0f7a4_38 : decode cJ6_numberOfTrailingZeros_0f7a4 38 = .ok (.if_icmp .le 11, 3) := by decide +kernel
theorem dJ6_numberOfTrailingZeros_0f7a4_41 : decode cJ6_numberOfTrailingZeros_0f7a4 41 = .ok (.iinc 1 8, 3) := by decide +kernel
theorem dJ6_numberOfTrailingZeros_0f7a4_44 : decode cJ6_numberOfTrailingZeros_0f7a4 44 = .ok (.iload_n 0, 1) := by decide +kernel
theorem dJ6_numberOfTrailingZeros_0f7a4_45 : decode cJ6_numberOfTrailingZeros_0f7a4 45 = .ok (.bipush 8, 2) := by decide +kernel
theorem dJ6_numberOfTrailingZeros_0f7a4_47 : decode cJ6_numberOfTrailingZeros_0f7a4 47 = .ok (.iushr, 1) := by decide +kernel
theorem dJ6_numberOfTrailingZeros_0f7a4_48 : decode cJ6_numberOfTrailingZeros_0f7a4 48 = .ok (.istore_n 0, 1) := by decide +kernel
theorem dJ6_numberOfTrailingZeros_0f7a4_49 : decode cJ6_numberOfTrailingZeros_0f7a4 49 = .ok (.iload_n 0, 1) := by decide +kernel
theorem dJ6_numberOfTrailingZeros_0f7a4_50 : decode cJ6_numberOfTrailingZeros_0f7a4 50 = .ok (.bipush 16, 2) := by decide +kernel
theorem dJ6_numberOfTrailingZeros_0f7a4_52 : decode cJ6_numberOfTrailingZeros_0f7a4 52 = .ok (.if_icmp .le 10, 3) := by decide +kernel
theorem dJ6_numberOfTrailingZeros_0f7a4_55 : decode cJ6_numberOfTrailingZeros_0f7a4 55 = .ok (.iinc 1 4, 3) := by decide +kernel
theorem dJ6_numberOfTrailingZeros_0f7a4_58 : decode cJ6_numberOfTrailingZeros_0f7a4 58 = .ok (.iload_n 0, 1) := by decide +kernel
theorem dJ6_numberOfTrailingZeros_0f7a4_59 : decode cJ6_numberOfTrailingZeros_0f7a4 59 = .ok (.iconst 4, 1) := by decide +kernel
theorem dJ6_numberOfTrailingZeros_0f7a4_60 : decode cJ6_numberOfTrailingZeros_0f7a4 60 = .ok (.iushr, 1) := by decide +kernel
theorem dJ6_numberOfTrailingZeros_0f7a4_61 : decode cJ6_numberOfTrailingZeros_0f7a4 61 = .ok (.istore_n 0, 1) := by decide +kernel
theorem dJ6_numberOfTrailingZeros_0f7a4_62 : decode cJ6_numberOfTrailingZeros_0f7a4 62 = .ok (.iload_n 0, 1) := by decide +kernel
theorem dJ6_numberOfTrailingZeros_0f7a4_63 : decode cJ6_numberOfTrailingZeros_0f7a4 63 = .ok (.iconst 4, 1) := by decide +kernel
theorem dJ6_numberOfTrailingZeros_0f7a4_64 : decode cJ6_numberOfTrailingZeros_0f7a4 64 = .ok (.if_icmp .le 10, 3) := by decide +kernel
theorem dJ6_numberOfTrailingZeros_0f7a4_67 : decode cJ6_numberOfTrailingZeros_0f7a4 67 = .ok (.iinc 1 2, 3) := by decide +kernel
theorem dJ6_numberOfTrailingZeros_0f7a4_70 : decode cJ6_numberOfTrailingZeros_0f7a4 70 = .ok (.iload_n 0, 1) := by decide +kernel
theorem dJ6_numberOfTrailingZeros_0f7a4_71 : decode cJ6_numberOfTrailingZeros_0f7a4 71 = .ok (.iconst 2, 1) := by decide +kernel
theorem dJ6_numberOfTrailingZeros_0f7a4_72 : decode cJ6_numberOfTrailingZeros_0f7a4 72 = .ok (.iushr, 1) := by decide +kernel
theorem dJ6_numberOfTrailingZeros_0f7a4_73 : decode cJ6_numberOfTrailingZeros_0f7a4 73 = .ok (.istore_n 0, 1) := by decide +kernel
theorem dJ6_numberOfTrailingZeros_0f7a4_74 : decode cJ6_numberOfTrailingZeros_0f7a4 74 = .ok (.iload_n 1, 1) := by decide +kernel
theorem dJ6_numberOfTrailingZeros_0f7a4_75 : decode cJ6_numberOfTrailingZeros_0f7a4 75 = .ok (.iload_n 0, 1) := by decide +kernel
theorem dJ6_numberOfTrailingZeros_0f7a4_76 : decode cJ6_numberOfTrailingZeros_0f7a4 76 = .ok (.iconst 1, 1) := by decide +kernel
theorem dJ6_numberOfTrailingZeros_0f7a4_77 : decode cJ6_numberOfTrailingZeros_0f7a4 77 = .ok (.iushr, 1) := by decide +kernel
theorem dJ6_numberOfTrailingZeros_0f7a4_78 : decode cJ6_numberOfTrailingZeros_0f7a4 78 = .ok (.iadd, 1) := by decide +kernel
theorem dJ6_numberOfTrailingZeros_0f7a4_79 : decode cJ6_numberOfTrailingZeros_0f7a4 79 = .ok (.ireturn, 1) := by decide +kernel
theorem dJ6_bitCount_0f7a4_0 : decode cJ6_bitCount_0f7a4 0 = .ok (.iload_n 0, 1) := by decide +kernel
theorem dJ6_bitCount_0f7a4_1 : decode cJ6_bitCount_0f7a4 1 = .ok (.iload_n 0, 1) := by decide +kernel
theorem dJ6_bitCount_0f7a4_2 : decode cJ6_bitCount_0f7a4 2 = .ok (.iconst 1, 1) := by decide +kernel
theorem dJ6_bitCount_0f7a4_3 : decode cJ6_bitCount_0f7a4 3 = .ok (.iushr, 1) := by decide +kernel
theorem dJ6_bitCount_0f7a4_4 : decode cJ6_bitCount_0f7a4 4 = .ok (.ldc_w 265, 3) := by decide +kernel
theorem dJ6_bitCount_0f7a4_7 : decode cJ6_bitCount_0f7a4 7 = .ok (.iand, 1) := by decide +kernel
theorem dJ6_bitCount_0f7a4_8 : decode cJ6_bitCount_0f7a4 8 = .ok (.isub, 1) := by decide +kernel
theorem dJ6_bitCount_0f7a4_9 : decode cJ6_bitCount_0f7a4 9 = .ok (.istore_n 0, 1) := by decide +kernel
theorem dJ6_bitCount_0f7a4_10 : decode cJ6_bitCount_0f7a4 10 = .ok (.iload_n 0, 1) := by decide +kernel
theorem dJ6_bitCount_0f7a4_11 : decode cJ6_bitCount_0f7a4 11 = .ok (.ldc_w 266, 3) := by decide +kernel
theorem dJ6_bitCount_0f7a4_14 : decode cJ6_bitCount_0f7a4 14 = .ok (.iand, 1) := by decide +kernel
theorem dJ6_bitCount_0f7a4_15 : decode cJ6_bitCount_0f7a4 15 = .ok (.iload_n 0, 1) := by decide +kernel
theorem dJ6_bitCount_0f7a4_16 : decode cJ6_bitCount_0f7a4 16 = .ok (.iconst 2, 1) := by decide +kernel
theorem dJ6_bitCount_0f7a4_17 : decode cJ6_bitCount_0f7a4 17 = .ok (.iushr, 1) := by decide +kernel
theorem dJ6_bitCount_0f7a4_18 : decode cJ6_bitCount_0f7a4 18 = .ok (.ldc_w 266, 3) := by decide +kernel
theorem dJ6_bitCount_0f7a4_21 : decode cJ6_bitCount_0f7a4 21 = .ok (.iand, 1) := by decide +kernel
theorem dJ6_bitCount_0f7a4_22 : decode cJ6_bitCount_0f7a4 22 = .ok (.iadd, 1) := by decide +kernel
theorem dJ6_bitCount_0f7a4_23 : decode cJ6_bitCount_0f7a4 23 = .ok (.istore_n 0, 1) := by decide +kernel
theorem dJ6_bitCount_0f7a4_24 : decode cJ6_bitCount_0f7a4 24 = .ok (.iload_n 0, 1) := by decide +kernel
theorem dJ6_bitCount_0f7a4_25 : decode cJ6_bitCount_0f7a4 25 = .ok (.iload_n 0, 1) := by decide +kernel
theorem dJ6_bitCount_0f7a4_26 : decode cJ6_bitCount_0f7a4 26 = .ok (.iconst 4, 1) := by decide +kernel
theorem dJ6_bitCount_0f7a4_27 : decode cJ6_bitCount_0f7a4 27 = .ok (.iushr, 1) := by decide +kernel
theorem dJ6_bitCount_0f7a4_28 : decode cJ6_bitCount_0f7a4 28 = .ok (.iadd, 1) := by decide +kernel
theorem dJ6_bitCount_0f7a4_29 : decode cJ6_bitCount_0f7a4 29 = .ok (.ldc_w 267, 3) := by decide +kernel
theorem dJ6_bitCount_0f7a4_32 : decode cJ6_bitCount_0f7a4 32 = .ok (.iand, 1) := by decide +kernel
theorem dJ6_bitCount_0f7a4_33 : decode cJ6_bitCount_0f7a4 33 = .ok (.istore_n 0, 1) := by decide +kernel
theorem dJ6_bitCount_0f7a4_34 : decode cJ6_bitCount_0f7a4 34 = .ok (.iload_n 0, 1) := by decide +kernel
theorem dJ6_bitCount_0f7a4_35 : decode cJ6_bitCount_0f7a4 35 = .ok (.iload_n 0, 1) := by decide +kernel
theorem dJ6_bitCount_0f7a4_36 : decode cJ6_bitCount_0f7a4 36 = .ok (.bipush 8, 2) := by decide +kernel
theorem dJ6_bitCount_0f7a4_38 : decode cJ6_bitCount_0f7a4 38 = .ok (.iushr, 1) := by decide +kernel
theorem dJ6_bitCount_0f7a4_39 : decode cJ6_bitCount_0f7a4 39 = .ok (.iadd, 1) := by decide +kernel
theorem dJ6_bitCount_0f7a4_40 : decode cJ6_bitCount_0f7a4 40 = .ok (.istore_n 0, 1) := by decide +kernel
theorem dJ6_bitCount_0f7a4_41 : decode cJ6_bitCount_0f7a4 41 = .ok (.iload_n 0, 1) := by decide +kernel
theorem dJ6_bitCount_0f7a4_42 : decode cJ6_bitCount_0f7a4 42 = .ok (.iload_n 0, 1) := by decide +kernel
theorem dJ6_bitCount_0f7a4_43 : decode cJ6_bitCount_0f7a4 43 = .ok (.bipush 16, 2) := by decide +kernel
theorem dJ6_bitCount_0f7a4_45 : decode cJ6_bitCount_0f7a4 45 = .ok (.iushr, 1) := by decide +kernel
theorem dJ6_bitCount_0f7a4_46 : decode cJ6_bitCount_0f7a4 46 = .ok (.iadd, 1) := by decide +kernel
theorem dJ6_bitCount_0f7a4_47 : decode cJ6_bitCount_0f7a4 47 = .ok (.istore_n 0, 1) := by decide +kernel
theorem dJ6_bitCount_0f7a4_48 : decode cJ6_bitCount_0f7a4 48 = .ok (.iload_n 0, 1) := by decide +kernel
theorem dJ6_bitCount_0f7a4_49 : decode cJ6_bitCount_0f7a4 49 = .ok (.bipush 63, 2) := by decide +kernel
theorem dJ6_bitCount_0f7a4_51 : decode cJ6_bitCount_0f7a4 51 = .ok (.iand, 1) := by decide +kernel
theorem dJ6_bitCount_0f7a4_52 : decode cJ6_bitCount_0f7a4 52 = .ok (.ireturn, 1) := by decide +kernel
theorem dJ9_floorMod_7cf53_0 : decode cJ9_floorMod_7cf53 0 = .ok (.iload_n 0, 1) := by decide +kernel
theorem dJ9_floorMod_7cf53_1 : decode cJ9_floorMod_7cf53 1 = .ok (.iload_n 1, 1) := by decide +kernel
theorem dJ9_floorMod_7cf53_2 : decode cJ9_floorMod_7cf53 2 = .ok (.irem, 1) := by decide +kernel
theorem dJ9_floorMod_7cf53_3 : decode cJ9_floorMod_7cf53 3 = .ok (.istore_n 2, 1) := by decide +kernel
theorem dJ9_floorMod_7cf53_4 : decode cJ9_floorMod_7cf53 4 = .ok (.iload_n 0, 1) := by decide +kernel
theorem dJ9_floorMod_7cf53_5 : decode cJ9_floorMod_7cf53 5 = .ok (.iload_n 1, 1) := by decide +kernel
theorem dJ9_floorMod_7cf53_6 : decode cJ9_floorMod_7cf53 6 = .ok (.ixor, 1) := by decide +kernel
theorem dJ9_floorMod_7cf53_7 : decode cJ9_floorMod_7cf53 7 = .ok (.ifCond .ge 11, 3) := by decide +kernel
theorem dJ9_floorMod_7cf53_10 : decode cJ9_floorMod_7cf53 10 = .ok (.iload_n 2, 1) := by decide +kernel
theorem dJ9_floorMod_7cf53_11 : decode cJ9_floorMod_7cf53 11 = .ok (.ifCond .eq 7, 3) := by decide +kernel
theorem dJ9_floorMod_7cf53_14 : decode cJ9_floorMod_7cf53 14 = .ok (.iload_n 2, 1) := by decide +kernel
theorem dJ9_floorMod_7cf53_15 : decode cJ9_floorMod_7cf53 15 = .ok (.iload_n 1, 1) := by decide +kernel
theorem dJ9_floorMod_7cf53_16 : decode cJ9_floorMod_7cf53 16 = .ok (.iadd, 1) := by decide +kernel
theorem dJ9_floorMod_7cf53_17 : decode cJ9_floorMod_7cf53 17 = .ok (.ireturn, 1) := by decide +kernel
theorem dJ9_floorMod_7cf53_18 : decode cJ9_floorMod_7cf53 18 = .ok (.iload_n 2, 1) := by decide +kernel
theorem dJ9_floorMod_7cf53_19 : decode cJ9_floorMod_7cf53 19 = .ok (.ireturn, 1) := by decide +kernel
theorem dJ9_abs_0f7a4_0 : decode cJ9_abs_0f7a4 0 = .ok (.iload_n 0, 1) := by decide +kernel
theorem dJ9_abs_0f7a4_1 : decode cJ9_abs_0f7a4 1 = .ok (.ifCond .ge 8, 3) := by decide +kernel
theorem dJ9_abs_0f7a4_4 : decode cJ9_abs_0f7a4 4 = .ok (.iload_n 0, 1) := by decide +kernel
theorem dJ9_abs_0f7a4_5 : decode cJ9_abs_0f7a4 5 = .ok (.ineg, 1) := by decide +kernel
theorem dJ9_abs_0f7a4_6 : decode cJ9_abs_0f7a4 6 = .ok (.goto 4, 3) := by decide +kernel
theorem dJ9_abs_0f7a4_9 : decode cJ9_abs_0f7a4 9 = .ok (.iload_n 0, 1) := by decide +kernel
theorem dJ9_abs_0f7a4_10 : decode cJ9_abs_0f7a4 10 = .ok (.ireturn, 1) := by decide +kernel
theorem dJ9_max_7cf53_0 : decode cJ9_max_7cf53 0 = .ok (.iload_n 0, 1) := by decide +kernel
theorem dJ9_max_7cf53_1 : decode cJ9_max_7cf53 1 = .ok (.iload_n 1, 1) := by decide +kernel
theorem dJ9_max_7cf53_2 : decode cJ9_max_7cf53 2 = .ok (.if_icmp .lt 7, 3) := by decide +kernel
theorem dJ9_max_7cf53_5 : decode cJ9_max_7cf53 5 = .ok (.iload_n 0, 1) := by decide +kernel
theorem dJ9_max_7cf53_6 : decode cJ9_max_7cf53 6 = .ok (.goto 4, 3) := by decide +kernel
theorem dJ9_max_7cf53_9 : decode cJ9_max_7cf53 9 = .ok (.iload_n 1, 1) := by decide +kernel
theorem dJ9_max_7cf53_10 : decode cJ9_max_7cf53 10 = .ok (.ireturn, 1) := by decide +kernel
theorem dJ9_min_7cf53_0 : decode cJ9_min_7cf53 0 = .ok (.iload_n 0, 1) := by decide +kernel
theorem dJ9_min_7cf53_1 : decode cJ9_min_7cf53 1 = .ok (.iload_n 1, 1) := by decide +kernel
theorem dJ9_min_7cf53_2 : decode cJ9_min_7cf53 2 = .ok (.if_icmp .gt 7, 3) := by decide +kernel
theorem dJ9_min_7cf53_5 : decode cJ9_min_7cf53 5 = .ok (.iload_n 0, 1) := by decide +kernel
theorem dJ9_min_7cf53_6 : decode cJ9_min_7cf53 6 = .ok (.goto 4, 3) := by decide +kernel
theorem dJ9_min_7cf53_9 : decode cJ9_min_7cf53 9 = .ok (.iload_n 1, 1) := by decide +kernel
theorem dJ9_min_7cf53_10 : decode cJ9_min_7cf53 10 = .ok (.ireturn, 1) := by decide +kernel
