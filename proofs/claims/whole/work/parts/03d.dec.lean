theorem dX9_mayUp_36 : decode cX9_mayUp 36 = .ok (.iadd, 1) := by decide +kernel
theorem dX9_mayUp_37 : decode cX9_mayUp 37 = .ok (.iaload, 1) := by decide +kernel
theorem dX9_mayUp_38 : decode cX9_mayUp 38 = .ok (.if_icmp .ge 23, 3) := by decide +kernel
theorem dX9_mayUp_41 : decode cX9_mayUp 41 = .ok (.aload_n 0, 1) := by decide +kernel
theorem dX9_mayUp_42 : decode cX9_mayUp 42 = .ok (.aload_n 0, 1) := by decide +kernel
theorem dX9_mayUp_43 : decode cX9_mayUp 43 = .ok (.getfield 22, 3) := by decide +kernel
theorem dX9_mayUp_46 : decode cX9_mayUp 46 = .ok (.bipush 9, 2) := by decide +kernel
theorem dX9_mayUp_48 : decode cX9_mayUp 48 = .ok (.iload_n 1, 1) := by decide +kernel
theorem dX9_mayUp_49 : decode cX9_mayUp 49 = .ok (.iadd, 1) := by decide +kernel
theorem dX9_mayUp_50 : decode cX9_mayUp 50 = .ok (.iaload, 1) := by decide +kernel
theorem dX9_mayUp_51 : decode cX9_mayUp 51 = .ok (.invokevirtual 98, 3) := by decide +kernel
theorem dX9_mayUp_54 : decode cX9_mayUp 54 = .ok (.ifCond .ne 7, 3) := by decide +kernel
theorem dX9_mayUp_57 : decode cX9_mayUp 57 = .ok (.iconst 1, 1) := by decide +kernel
theorem dX9_mayUp_58 : decode cX9_mayUp 58 = .ok (.goto 4, 3) := by decide +kernel
theorem dX9_mayUp_61 : decode cX9_mayUp 61 = .ok (.iconst 0, 1) := by decide +kernel
theorem dX9_mayUp_62 : decode cX9_mayUp 62 = .ok (.ireturn, 1) := by decide +kernel
theorem dX9_down_0 : decode cX9_down 0 = .ok (.aload_n 0, 1) := by decide +kernel
theorem dX9_down_1 : decode cX9_down 1 = .ok (.iload_n 1, 1) := by decide +kernel
theorem dX9_down_2 : decode cX9_down 2 = .ok (.invokevirtual 119, 3) := by decide +kernel
theorem dX9_down_5 : decode cX9_down 5 = .ok (.ifCond .ne 5, 3) := by decide +kernel
theorem dX9_down_8 : decode cX9_down 8 = .ok (.iconst (-1), 1) := by decide +kernel
theorem dX9_down_9 : decode cX9_down 9 = .ok (.ireturn, 1) := by decide +kernel
theorem dX9_down_10 : decode cX9_down 10 = .ok (.aload_n 0, 1) := by decide +kernel
theorem dX9_down_11 : decode cX9_down 11 = .ok (.iload_n 1, 1) := by decide +kernel
theorem dX9_down_12 : decode cX9_down 12 = .ok (.invokevirtual 140, 3) := by decide +kernel
theorem dX9_down_15 : decode cX9_down 15 = .ok (.ifCond .ne 6, 3) := by decide +kernel
theorem dX9_down_18 : decode cX9_down 18 = .ok (.bipush (-2), 2) := by decide +kernel
theorem dX9_down_20 : decode cX9_down 20 = .ok (.ireturn, 1) := by decide +kernel
theorem dX9_down_21 : decode cX9_down 21 = .ok (.aload_n 0, 1) := by decide +kernel
theorem dX9_down_22 : decode cX9_down 22 = .ok (.invokevirtual 131, 3) := by decide +kernel
theorem dX9_down_25 : decode cX9_down 25 = .ok (.aload_n 0, 1) := by decide +kernel
theorem dX9_down_26 : decode cX9_down 26 = .ok (.getfield 22, 3) := by decide +kernel
theorem dX9_down_29 : decode cX9_down 29 = .ok (.iconst 1, 1) := by decide +kernel
theorem dX9_down_30 : decode cX9_down 30 = .ok (.dup2, 1) := by decide +kernel
theorem dX9_down_31 : decode cX9_down 31 = .ok (.iaload, 1) := by decide +kernel
theorem dX9_down_32 : decode cX9_down 32 = .ok (.iconst 1, 1) := by decide +kernel
theorem dX9_down_33 : decode cX9_down 33 = .ok (.iload_n 1, 1) := by decide +kernel
theorem dX9_down_34 : decode cX9_down 34 = .ok (.ishl, 1) := by decide +kernel
theorem dX9_down_35 : decode cX9_down 35 = .ok (.ixor, 1) := by decide +kernel
theorem dX9_down_36 : decode cX9_down 36 = .ok (.iastore, 1) := by decide +kernel
theorem dX9_down_37 : decode cX9_down 37 = .ok (.aload_n 0, 1) := by decide +kernel
theorem dX9_down_38 : decode cX9_down 38 = .ok (.getfield 22, 3) := by decide +kernel
theorem dX9_down_41 : decode cX9_down 41 = .ok (.iconst 3, 1) := by decide +kernel
theorem dX9_down_42 : decode cX9_down 42 = .ok (.iload_n 1, 1) := by decide +kernel
theorem dX9_down_43 : decode cX9_down 43 = .ok (.iadd, 1) := by decide +kernel
theorem dX9_down_44 : decode cX9_down 44 = .ok (.iaload, 1) := by decide +kernel
theorem dX9_down_45 : decode cX9_down 45 = .ok (.ireturn, 1) := by decide +kernel
theorem dX9_up_0 : decode cX9_up 0 = .ok (.aload_n 0, 1) := by decide +kernel
theorem dX9_up_1 : decode cX9_up 1 = .ok (.iload_n 1, 1) := by decide +kernel
theorem dX9_up_2 : decode cX9_up 2 = .ok (.invokevirtual 119, 3) := by decide +kernel
theorem dX9_up_5 : decode cX9_up 5 = .ok (.ifCond .ne 5, 3) := by decide +kernel
theorem dX9_up_8 : decode cX9_up 8 = .ok (.iconst (-1), 1) := by decide +kernel
theorem dX9_up_9 : decode cX9_up 9 = .ok (.ireturn, 1) := by decide +kernel
theorem dX9_up_10 : decode cX9_up 10 = .ok (.aload_n 0, 1) := by decide +kernel
theorem dX9_up_11 : decode cX9_up 11 = .ok (.iload_n 1, 1) := by decide +kernel
theorem dX9_up_12 : decode cX9_up 12 = .ok (.invokevirtual 143, 3) := by decide +kernel
theorem dX9_up_15 : decode cX9_up 15 = .ok (.ifCond .ne 6, 3) := by decide +kernel
theorem dX9_up_18 : decode cX9_up 18 = .ok (.bipush (-2), 2) := by decide +kernel
theorem dX9_up_20 : decode cX9_up 20 = .ok (.ireturn, 1) := by decide +kernel
theorem dX9_up_21 : decode cX9_up 21 = .ok (.aload_n 0, 1) := by decide +kernel
theorem dX9_up_22 : decode cX9_up 22 = .ok (.invokevirtual 131, 3) := by decide +kernel
theorem dX9_up_25 : decode cX9_up 25 = .ok (.aload_n 0, 1) := by decide +kernel
theorem dX9_up_26 : decode cX9_up 26 = .ok (.getfield 22, 3) := by decide +kernel
theorem dX9_up_29 : decode cX9_up 29 = .ok (.iconst 1, 1) := by decide +kernel
theorem dX9_up_30 : decode cX9_up 30 = .ok (.dup2, 1) := by decide +kernel
theorem dX9_up_31 : decode cX9_up 31 = .ok (.iaload, 1) := by decide +kernel
theorem dX9_up_32 : decode cX9_up 32 = .ok (.iconst 1, 1) := by decide +kernel
theorem dX9_up_33 : decode cX9_up 33 = .ok (.iload_n 1, 1) := by decide +kernel
theorem dX9_up_34 : decode cX9_up 34 = .ok (.ishl, 1) := by decide +kernel
theorem dX9_up_35 : decode cX9_up 35 = .ok (.ior, 1) := by decide +kernel
theorem dX9_up_36 : decode cX9_up 36 = .ok (.iastore, 1) := by decide +kernel
theorem dX9_up_37 : decode cX9_up 37 = .ok (.iconst 0, 1) := by decide +kernel
theorem dX9_up_38 : decode cX9_up 38 = .ok (.istore_n 2, 1) := by decide +kernel
theorem dX9_up_39 : decode cX9_up 39 = .ok (.iconst 0, 1) := by decide +kernel
theorem dX9_up_40 : decode cX9_up 40 = .ok (.istore_n 3, 1) := by decide +kernel
theorem dX9_up_41 : decode cX9_up 41 = .ok (.iload_n 3, 1) := by decide +kernel
theorem dX9_up_42 : decode cX9_up 42 = .ok (.aload_n 0, 1) := by decide +kernel
theorem dX9_up_43 : decode cX9_up 43 = .ok (.getfield 13, 3) := by decide +kernel
theorem dX9_up_46 : decode cX9_up 46 = .ok (.iconst 1, 1) := by decide +kernel
theorem dX9_up_47 : decode cX9_up 47 = .ok (.iaload, 1) := by decide +kernel
theorem dX9_up_48 : decode cX9_up 48 = .ok (.if_icmp .ge 51, 3) := by decide +kernel
theorem dX9_up_51 : decode cX9_up 51 = .ok (.iload_n 2, 1) := by decide +kernel
theorem dX9_up_52 : decode cX9_up 52 = .ok (.aload_n 0, 1) := by decide +kernel
theorem dX9_up_53 : decode cX9_up 53 = .ok (.getfield 22, 3) := by decide +kernel
theorem dX9_up_56 : decode cX9_up 56 = .ok (.iconst 1, 1) := by decide +kernel
theorem dX9_up_57 : decode cX9_up 57 = .ok (.iaload, 1) := by decide +kernel
theorem dX9_up_58 : decode cX9_up 58 = .ok (.iload_n 3, 1) := by decide +kernel
theorem dX9_up_59 : decode cX9_up 59 = .ok (.invokestatic 94, 3) := by decide +kernel
theorem dX9_up_62 : decode cX9_up 62 = .ok (.ifCond .eq 28, 3) := by decide +kernel
theorem dX9_up_65 : decode cX9_up 65 = .ok (.aload_n 0, 1) := by decide +kernel
theorem dX9_up_66 : decode cX9_up 66 = .ok (.getfield 22, 3) := by decide +kernel
theorem dX9_up_69 : decode cX9_up 69 = .ok (.bipush 9, 2) := by decide +kernel
theorem dX9_up_71 : decode cX9_up 71 = .ok (.iload_n 3, 1) := by decide +kernel
theorem dX9_up_72 : decode cX9_up 72 = .ok (.iadd, 1) := by decide +kernel
theorem dX9_up_73 : decode cX9_up 73 = .ok (.iaload, 1) := by decide +kernel
theorem dX9_up_74 : decode cX9_up 74 = .ok (.aload_n 0, 1) := by decide +kernel
theorem dX9_up_75 : decode cX9_up 75 = .ok (.getfield 22, 3) := by decide +kernel
theorem dX9_up_78 : decode cX9_up 78 = .ok (.bipush 9, 2) := by decide +kernel
theorem dX9_up_80 : decode cX9_up 80 = .ok (.iload_n 1, 1) := by decide +kernel
theorem dX9_up_81 : decode cX9_up 81 = .ok (.iadd, 1) := by decide +kernel
theorem dX9_up_82 : decode cX9_up 82 = .ok (.iaload, 1) := by decide +kernel
theorem dX9_up_83 : decode cX9_up 83 = .ok (.if_icmp .ne 7, 3) := by decide +kernel
theorem dX9_up_86 : decode cX9_up 86 = .ok (.iconst 1, 1) := by decide +kernel
theorem dX9_up_87 : decode cX9_up 87 = .ok (.goto 4, 3) := by decide +kernel
theorem dX9_up_90 : decode cX9_up 90 = .ok (.iconst 0, 1) := by decide +kernel
theorem dX9_up_91 : decode cX9_up 91 = .ok (.iadd, 1) := by decide +kernel
theorem dX9_up_92 : decode cX9_up 92 = .ok (.istore_n 2, 1) := by decide +kernel
theorem dX9_up_93 : decode cX9_up 93 = .ok (.iinc 3 1, 3) := by decide +kernel
theorem dX9_up_96 : decode cX9_up 96 = .ok (.goto (-55), 3) := by decide +kernel
theorem dX9_up_99 : decode cX9_up 99 = .ok (.iload_n 2, 1) := by decide +kernel
theorem dX9_up_100 : decode cX9_up 100 = .ok (.ireturn, 1) := by decide +kernel
theorem dX9_send_0 : decode cX9_send 0 = .ok (.aload_n 0, 1) := by decide +kernel
theorem dX9_send_1 : decode cX9_send 1 = .ok (.iload_n 1, 1) := by decide +kernel
theorem dX9_send_2 : decode cX9_send 2 = .ok (.invokevirtual 119, 3) := by decide +kernel
theorem dX9_send_5 : decode cX9_send 5 = .ok (.ifCond .eq 11, 3) := by decide +kernel
theorem dX9_send_8 : decode cX9_send 8 = .ok (.aload_n 0, 1) := by decide +kernel
theorem dX9_send_9 : decode cX9_send 9 = .ok (.iload_n 2, 1) := by decide +kernel
theorem dX9_send_10 : decode cX9_send 10 = .ok (.invokevirtual 101, 3) := by decide +kernel
theorem dX9_send_13 : decode cX9_send 13 = .ok (.ifCond .ne 5, 3) := by decide +kernel
theorem dX9_send_16 : decode cX9_send 16 = .ok (.iconst (-1), 1) := by decide +kernel
theorem dX9_send_17 : decode cX9_send 17 = .ok (.ireturn, 1) := by decide +kernel
theorem dX9_send_18 : decode cX9_send 18 = .ok (.aload_n 0, 1) := by decide +kernel
theorem dX9_send_19 : decode cX9_send 19 = .ok (.getfield 22, 3) := by decide +kernel
theorem dX9_send_22 : decode cX9_send 22 = .ok (.iconst 1, 1) := by decide +kernel
theorem dX9_send_23 : decode cX9_send 23 = .ok (.iaload, 1) := by decide +kernel
theorem dX9_send_24 : decode cX9_send 24 = .ok (.iload_n 1, 1) := by decide +kernel
theorem dX9_send_25 : decode cX9_send 25 = .ok (.invokestatic 94, 3) := by decide +kernel
theorem dX9_send_28 : decode cX9_send 28 = .ok (.ifCond .eq 6, 3) := by decide +kernel
theorem dX9_send_31 : decode cX9_send 31 = .ok (.bipush (-2), 2) := by decide +kernel
theorem dX9_send_33 : decode cX9_send 33 = .ok (.ireturn, 1) := by decide +kernel
theorem dX9_send_34 : decode cX9_send 34 = .ok (.aload_n 0, 1) := by decide +kernel
theorem dX9_send_35 : decode cX9_send 35 = .ok (.invokevirtual 131, 3) := by decide +kernel
theorem dX9_send_38 : decode cX9_send 38 = .ok (.aload_n 0, 1) := by decide +kernel
theorem dX9_send_39 : decode cX9_send 39 = .ok (.getfield 22, 3) := by decide +kernel
theorem dX9_send_42 : decode cX9_send 42 = .ok (.bipush 9, 2) := by decide +kernel
theorem dX9_send_44 : decode cX9_send 44 = .ok (.iload_n 1, 1) := by decide +kernel
theorem dX9_send_45 : decode cX9_send 45 = .ok (.iadd, 1) := by decide +kernel
theorem dX9_send_46 : decode cX9_send 46 = .ok (.iaload, 1) := by decide +kernel
theorem dX9_send_47 : decode cX9_send 47 = .ok (.istore_n 3, 1) := by decide +kernel
theorem dX9_send_48 : decode cX9_send 48 = .ok (.aload_n 0, 1) := by decide +kernel
theorem dX9_send_49 : decode cX9_send 49 = .ok (.getfield 22, 3) := by decide +kernel
theorem dX9_send_52 : decode cX9_send 52 = .ok (.bipush 9, 2) := by decide +kernel
theorem dX9_send_54 : decode cX9_send 54 = .ok (.iload_n 1, 1) := by decide +kernel
theorem dX9_send_55 : decode cX9_send 55 = .ok (.iadd, 1) := by decide +kernel
theorem dX9_send_56 : decode cX9_send 56 = .ok (.iload_n 2, 1) := by decide +kernel
theorem dX9_send_57 : decode cX9_send 57 = .ok (.iastore, 1) := by decide +kernel
theorem dX9_send_58 : decode cX9_send 58 = .ok (.iload_n 3, 1) := by decide +kernel
theorem dX9_send_59 : decode cX9_send 59 = .ok (.ireturn, 1) := by decide +kernel
theorem dX9_undo_0 : decode cX9_undo 0 = .ok (.aload_n 0, 1) := by decide +kernel
theorem dX9_undo_1 : decode cX9_undo 1 = .ok (.getfield 88, 3) := by decide +kernel
theorem dX9_undo_4 : decode cX9_undo 4 = .ok (.ifCond .ne 6, 3) := by decide +kernel
theorem dX9_undo_7 : decode cX9_undo 7 = .ok (.bipush (-2), 2) := by decide +kernel
theorem dX9_undo_9 : decode cX9_undo 9 = .ok (.ireturn, 1) := by decide +kernel
theorem dX9_undo_10 : decode cX9_undo 10 = .ok (.aload_n 0, 1) := by decide +kernel
theorem dX9_undo_11 : decode cX9_undo 11 = .ok (.dup, 1) := by decide +kernel
theorem dX9_undo_12 : decode cX9_undo 12 = .ok (.getfield 88, 3) := by decide +kernel
theorem dX9_undo_15 : decode cX9_undo 15 = .ok (.iconst 1, 1) := by decide +kernel
theorem dX9_undo_16 : decode cX9_undo 16 = .ok (.isub, 1) := by decide +kernel
theorem dX9_undo_17 : decode cX9_undo 17 = .ok (.putfield 88, 3) := by decide +kernel
theorem dX9_undo_20 : decode cX9_undo 20 = .ok (.iconst 0, 1) := by decide +kernel
theorem dX9_undo_21 : decode cX9_undo 21 = .ok (.istore_n 1, 1) := by decide +kernel
theorem dX9_undo_22 : decode cX9_undo 22 = .ok (.iload_n 1, 1) := by decide +kernel
theorem dX9_undo_23 : decode cX9_undo 23 = .ok (.bipush 23, 2) := by decide +kernel
theorem dX9_undo_25 : decode cX9_undo 25 = .ok (.if_icmp .ge 29, 3) := by decide +kernel
theorem dX9_undo_28 : decode cX9_undo 28 = .ok (.aload_n 0, 1) := by decide +kernel
theorem dX9_undo_29 : decode cX9_undo 29 = .ok (.getfield 22, 3) := by decide +kernel
theorem dX9_undo_32 : decode cX9_undo 32 = .ok (.iload_n 1, 1) := by decide +kernel
theorem dX9_undo_33 : decode cX9_undo 33 = .ok (.aload_n 0, 1) := by decide +kernel
theorem dX9_undo_34 : decode cX9_undo 34 = .ok (.getfield 25, 3) := by decide +kernel
theorem dX9_undo_37 : decode cX9_undo 37 = .ok (.bipush 23, 2) := by decide +kernel
theorem dX9_undo_39 : decode cX9_undo 39 = .ok (.aload_n 0, 1) := by decide +kernel
theorem dX9_undo_40 : decode cX9_undo 40 = .ok (.getfield 88, 3) := by decide +kernel
theorem dX9_undo_43 : decode cX9_undo 43 = .ok (.imul, 1) := by decide +kernel
theorem dX9_undo_44 : decode cX9_undo 44 = .ok (.iload_n 1, 1) := by decide +kernel
theorem dX9_undo_45 : decode cX9_undo 45 = .ok (.iadd, 1) := by decide +kernel
theorem dX9_undo_46 : decode cX9_undo 46 = .ok (.iaload, 1) := by decide +kernel
theorem dX9_undo_47 : decode cX9_undo 47 = .ok (.iastore, 1) := by decide +kernel
theorem dX9_undo_48 : decode cX9_undo 48 = .ok (.iinc 1 1, 3) := by decide +kernel
theorem dX9_undo_51 : decode cX9_undo 51 = .ok (.goto (-29), 3) := by decide +kernel
theorem dX9_undo_54 : decode cX9_undo 54 = .ok (.aload_n 0, 1) := by decide +kernel
theorem dX9_undo_55 : decode cX9_undo 55 = .ok (.getfield 88, 3) := by decide +kernel
theorem dX9_undo_58 : decode cX9_undo 58 = .ok (.ireturn, 1) := by decide +kernel
theorem dX9_holds_0 : decode cX9_holds 0 = .ok (.iconst 0, 1) := by decide +kernel
theorem dX9_holds_1 : decode cX9_holds 1 = .ok (.istore_n 1, 1) := by decide +kernel
theorem dX9_holds_2 : decode cX9_holds 2 = .ok (.iload_n 1, 1) := by decide +kernel
theorem dX9_holds_3 : decode cX9_holds 3 = .ok (.bipush 23, 2) := by decide +kernel
theorem dX9_holds_5 : decode cX9_holds 5 = .ok (.if_icmp .ge 21, 3) := by decide +kernel
theorem dX9_holds_8 : decode cX9_holds 8 = .ok (.aload_n 0, 1) := by decide +kernel
theorem dX9_holds_9 : decode cX9_holds 9 = .ok (.getfield 31, 3) := by decide +kernel
theorem dX9_holds_12 : decode cX9_holds 12 = .ok (.iload_n 1, 1) := by decide +kernel
theorem dX9_holds_13 : decode cX9_holds 13 = .ok (.aload_n 0, 1) := by decide +kernel
theorem dX9_holds_14 : decode cX9_holds 14 = .ok (.getfield 22, 3) := by decide +kernel
theorem dX9_holds_17 : decode cX9_holds 17 = .ok (.iload_n 1, 1) := by decide +kernel
theorem dX9_holds_18 : decode cX9_holds 18 = .ok (.iaload, 1) := by decide +kernel
theorem dX9_holds_19 : decode cX9_holds 19 = .ok (.iastore, 1) := by decide +kernel
theorem dX9_holds_20 : decode cX9_holds 20 = .ok (.iinc 1 1, 3) := by decide +kernel
theorem dX9_holds_23 : decode cX9_holds 23 = .ok (.goto (-21), 3) := by decide +kernel
theorem dX9_holds_26 : decode cX9_holds 26 = .ok (.return_, 1) := by decide +kernel
theorem dX9_lets_0 : decode cX9_lets 0 = .ok (.iconst 0, 1) := by decide +kernel
theorem dX9_lets_1 : decode cX9_lets 1 = .ok (.istore_n 1, 1) := by decide +kernel
theorem dX9_lets_2 : decode cX9_lets 2 = .ok (.iload_n 1, 1) := by decide +kernel
theorem dX9_lets_3 : decode cX9_lets 3 = .ok (.bipush 23, 2) := by decide +kernel
theorem dX9_lets_5 : decode cX9_lets 5 = .ok (.if_icmp .ge 21, 3) := by decide +kernel
theorem dX9_lets_8 : decode cX9_lets 8 = .ok (.aload_n 0, 1) := by decide +kernel
theorem dX9_lets_9 : decode cX9_lets 9 = .ok (.getfield 22, 3) := by decide +kernel
theorem dX9_lets_12 : decode cX9_lets 12 = .ok (.iload_n 1, 1) := by decide +kernel
theorem dX9_lets_13 : decode cX9_lets 13 = .ok (.aload_n 0, 1) := by decide +kernel
theorem dX9_lets_14 : decode cX9_lets 14 = .ok (.getfield 31, 3) := by decide +kernel
theorem dX9_lets_17 : decode cX9_lets 17 = .ok (.iload_n 1, 1) := by decide +kernel
theorem dX9_lets_18 : decode cX9_lets 18 = .ok (.iaload, 1) := by decide +kernel
theorem dX9_lets_19 : decode cX9_lets 19 = .ok (.iastore, 1) := by decide +kernel
theorem dX9_lets_20 : decode cX9_lets 20 = .ok (.iinc 1 1, 3) := by decide +kernel
theorem dX9_lets_23 : decode cX9_lets 23 = .ok (.goto (-21), 3) := by decide +kernel
theorem dX9_lets_26 : decode cX9_lets 26 = .ok (.return_, 1) := by decide +kernel
theorem dX9_falls_0 : decode cX9_falls 0 = .ok (.aload_n 0, 1) := by decide +kernel
theorem dX9_falls_1 : decode cX9_falls 1 = .ok (.getfield 22, 3) := by decide +kernel
theorem dX9_falls_4 : decode cX9_falls 4 = .ok (.iconst 2, 1) := by decide +kernel
theorem dX9_falls_5 : decode cX9_falls 5 = .ok (.iaload, 1) := by decide +kernel
theorem dX9_falls_6 : decode cX9_falls 6 = .ok (.istore_n 2, 1) := by decide +kernel
theorem dX9_falls_7 : decode cX9_falls 7 = .ok (.iconst 0, 1) := by decide +kernel
theorem dX9_falls_8 : decode cX9_falls 8 = .ok (.istore_n 3, 1) := by decide +kernel
theorem dX9_falls_9 : decode cX9_falls 9 = .ok (.iload_n 3, 1) := by decide +kernel
theorem dX9_falls_10 : decode cX9_falls 10 = .ok (.iload_n 1, 1) := by decide +kernel
theorem dX9_falls_11 : decode cX9_falls 11 = .ok (.iconst 1, 1) := by decide +kernel
theorem dX9_falls_12 : decode cX9_falls 12 = .ok (.iadd, 1) := by decide +kernel
theorem dX9_falls_13 : decode cX9_falls 13 = .ok (.if_icmp .ge 23, 3) := by decide +kernel
theorem dX9_falls_16 : decode cX9_falls 16 = .ok (.aload_n 0, 1) := by decide +kernel
theorem dX9_falls_17 : decode cX9_falls 17 = .ok (.getfield 22, 3) := by decide +kernel
theorem dX9_falls_20 : decode cX9_falls 20 = .ok (.iconst 2, 1) := by decide +kernel
theorem dX9_falls_21 : decode cX9_falls 21 = .ok (.iaload, 1) := by decide +kernel
theorem dX9_falls_22 : decode cX9_falls 22 = .ok (.iload_n 2, 1) := by decide +kernel
theorem dX9_falls_23 : decode cX9_falls 23 = .ok (.if_icmp .ne 13, 3) := by decide +kernel
theorem dX9_falls_26 : decode cX9_falls 26 = .ok (.aload_n 0, 1) := by decide +kernel
theorem dX9_falls_27 : decode cX9_falls 27 = .ok (.invokevirtual 134, 3) := by decide +kernel
theorem dX9_falls_30 : decode cX9_falls 30 = .ok (.iinc 3 1, 3) := by decide +kernel
theorem dX9_falls_33 : decode cX9_falls 33 = .ok (.goto (-24), 3) := by decide +kernel
theorem dX9_falls_36 : decode cX9_falls 36 = .ok (.iload_n 3, 1) := by decide +kernel
theorem dX9_falls_37 : decode cX9_falls 37 = .ok (.ireturn, 1) := by decide +kernel
theorem dX9_lowest_0 : decode cX9_lowest 0 = .ok (.iconst 0, 1) := by decide +kernel
theorem dX9_lowest_1 : decode cX9_lowest 1 = .ok (.istore_n 1, 1) := by decide +kernel
theorem dX9_lowest_2 : decode cX9_lowest 2 = .ok (.iload_n 0, 1) := by decide +kernel
theorem dX9_lowest_3 : decode cX9_lowest 3 = .ok (.iload_n 1, 1) := by decide +kernel
theorem dX9_lowest_4 : decode cX9_lowest 4 = .ok (.invokestatic 94, 3) := by decide +kernel
theorem dX9_lowest_7 : decode cX9_lowest 7 = .ok (.ifCond .ne 9, 3) := by decide +kernel
theorem dX9_lowest_10 : decode cX9_lowest 10 = .ok (.iinc 1 1, 3) := by decide +kernel
theorem dX9_lowest_13 : decode cX9_lowest 13 = .ok (.goto (-11), 3) := by decide +kernel
theorem dX9_lowest_16 : decode cX9_lowest 16 = .ok (.iload_n 1, 1) := by decide +kernel
theorem dX9_lowest_17 : decode cX9_lowest 17 = .ok (.ireturn, 1) := by decide +kernel
theorem dX9_stands_0 : decode cX9_stands 0 = .ok (.iload_n 1, 1) := by decide +kernel
theorem dX9_stands_1 : decode cX9_stands 1 = .ok (.iconst 0, 1) := by decide +kernel
theorem dX9_stands_2 : decode cX9_stands 2 = .ok (.iconst 1, 1) := by decide +kernel
theorem dX9_stands_3 : decode cX9_stands 3 = .ok (.invokestatic 52, 3) := by decide +kernel
theorem dX9_stands_6 : decode cX9_stands 6 = .ok (.ifCond .ne 5, 3) := by decide +kernel
theorem dX9_stands_9 : decode cX9_stands 9 = .ok (.iconst (-1), 1) := by decide +kernel
theorem dX9_stands_10 : decode cX9_stands 10 = .ok (.ireturn, 1) := by decide +kernel
theorem dX9_stands_11 : decode cX9_stands 11 = .ok (.aload_n 0, 1) := by decide +kernel
theorem dX9_stands_12 : decode cX9_stands 12 = .ok (.invokevirtual 146, 3) := by decide +kernel
theorem dX9_stands_15 : decode cX9_stands 15 = .ok (.aload_n 0, 1) := by decide +kernel
theorem dX9_stands_16 : decode cX9_stands 16 = .ok (.bipush 60, 2) := by decide +kernel
theorem dX9_stands_18 : decode cX9_stands 18 = .ok (.invokevirtual 149, 3) := by decide +kernel
theorem dX9_stands_21 : decode cX9_stands 21 = .ok (.istore_n 2, 1) := by decide +kernel
theorem dX9_stands_22 : decode cX9_stands 22 = .ok (.aload_n 0, 1) := by decide +kernel
theorem dX9_stands_23 : decode cX9_stands 23 = .ok (.getfield 22, 3) := by decide +kernel
theorem dX9_stands_26 : decode cX9_stands 26 = .ok (.iconst 2, 1) := by decide +kernel
theorem dX9_stands_27 : decode cX9_stands 27 = .ok (.iaload, 1) := by decide +kernel
theorem dX9_stands_28 : decode cX9_stands 28 = .ok (.aload_n 0, 1) := by decide +kernel
theorem dX9_stands_29 : decode cX9_stands 29 = .ok (.getfield 31, 3) := by decide +kernel
theorem dX9_stands_32 : decode cX9_stands 32 = .ok (.iconst 2, 1) := by decide +kernel
theorem dX9_stands_33 : decode cX9_stands 33 = .ok (.iaload, 1) := by decide +kernel
theorem dX9_stands_34 : decode cX9_stands 34 = .ok (.iconst (-1), 1) := by decide +kernel
theorem dX9_stands_35 : decode cX9_stands 35 = .ok (.ixor, 1) := by decide +kernel
theorem dX9_stands_36 : decode cX9_stands 36 = .ok (.iand, 1) := by decide +kernel
theorem dX9_stands_37 : decode cX9_stands 37 = .ok (.istore_n 3, 1) := by decide +kernel
theorem dX9_stands_38 : decode cX9_stands 38 = .ok (.aload_n 0, 1) := by decide +kernel
theorem dX9_stands_39 : decode cX9_stands 39 = .ok (.invokevirtual 152, 3) := by decide +kernel
theorem dX9_stands_42 : decode cX9_stands 42 = .ok (.iload_n 2, 1) := by decide +kernel
theorem dX9_stands_43 : decode cX9_stands 43 = .ok (.bipush 60, 2) := by decide +kernel
theorem dX9_stands_45 : decode cX9_stands 45 = .ok (.if_icmp .le 8, 3) := by decide +kernel
theorem dX9_stands_48 : decode cX9_stands 48 = .ok (.bipush (-4), 2) := by decide +kernel
theorem dX9_stands_50 : decode cX9_stands 50 = .ok (.goto 15, 3) := by decide +kernel
theorem dX9_stands_53 : decode cX9_stands 53 = .ok (.iload_n 1, 1) := by decide +kernel
theorem dX9_stands_54 : decode cX9_stands 54 = .ok (.ifCond .ne 7, 3) := by decide +kernel
theorem dX9_stands_57 : decode cX9_stands 57 = .ok (.iload_n 2, 1) := by decide +kernel
theorem dX9_stands_58 : decode cX9_stands 58 = .ok (.goto 7, 3) := by decide +kernel
theorem dX9_stands_61 : decode cX9_stands 61 = .ok (.iload_n 3, 1) := by decide +kernel
theorem dX9_stands_62 : decode cX9_stands 62 = .ok (.invokestatic 155, 3) := by decide +kernel
theorem dX9_stands_65 : decode cX9_stands 65 = .ok (.ireturn, 1) := by decide +kernel
theorem dX9_useful_0 : decode cX9_useful 0 = .ok (.iconst 0, 1) := by decide +kernel
theorem dX9_useful_1 : decode cX9_useful 1 = .ok (.istore_n 1, 1) := by decide +kernel
theorem dX9_useful_2 : decode cX9_useful 2 = .ok (.iconst 0, 1) := by decide +kernel
theorem dX9_useful_3 : decode cX9_useful 3 = .ok (.istore_n 2, 1) := by decide +kernel
theorem dX9_useful_4 : decode cX9_useful 4 = .ok (.iload_n 2, 1) := by decide +kernel
theorem dX9_useful_5 : decode cX9_useful 5 = .ok (.aload_n 0, 1) := by decide +kernel
theorem dX9_useful_6 : decode cX9_useful 6 = .ok (.getfield 13, 3) := by decide +kernel
theorem dX9_useful_9 : decode cX9_useful 9 = .ok (.iconst 1, 1) := by decide +kernel
theorem dX9_useful_10 : decode cX9_useful 10 = .ok (.iaload, 1) := by decide +kernel
theorem dX9_useful_11 : decode cX9_useful 11 = .ok (.if_icmp .ge 35, 3) := by decide +kernel
theorem dX9_useful_14 : decode cX9_useful 14 = .ok (.iload_n 1, 1) := by decide +kernel
theorem dX9_useful_15 : decode cX9_useful 15 = .ok (.aload_n 0, 1) := by decide +kernel
theorem dX9_useful_16 : decode cX9_useful 16 = .ok (.aload_n 0, 1) := by decide +kernel
theorem dX9_useful_17 : decode cX9_useful 17 = .ok (.getfield 22, 3) := by decide +kernel
theorem dX9_useful_20 : decode cX9_useful 20 = .ok (.bipush 9, 2) := by decide +kernel
theorem dX9_useful_22 : decode cX9_useful 22 = .ok (.iload_n 2, 1) := by decide +kernel
theorem dX9_useful_23 : decode cX9_useful 23 = .ok (.iadd, 1) := by decide +kernel
theorem dX9_useful_24 : decode cX9_useful 24 = .ok (.iaload, 1) := by decide +kernel
theorem dX9_useful_25 : decode cX9_useful 25 = .ok (.invokevirtual 98, 3) := by decide +kernel
theorem dX9_useful_28 : decode cX9_useful 28 = .ok (.ifCond .eq 7, 3) := by decide +kernel
theorem dX9_useful_31 : decode cX9_useful 31 = .ok (.iconst 0, 1) := by decide +kernel
theorem dX9_useful_32 : decode cX9_useful 32 = .ok (.goto 6, 3) := by decide +kernel
theorem dX9_useful_35 : decode cX9_useful 35 = .ok (.iconst 1, 1) := by decide +kernel
theorem dX9_useful_36 : decode cX9_useful 36 = .ok (.iload_n 2, 1) := by decide +kernel
theorem dX9_useful_37 : decode cX9_useful 37 = .ok (.ishl, 1) := by decide +kernel
theorem dX9_useful_38 : decode cX9_useful 38 = .ok (.ior, 1) := by decide +kernel
theorem dX9_useful_39 : decode cX9_useful 39 = .ok (.istore_n 1, 1) := by decide +kernel
theorem dX9_useful_40 : decode cX9_useful 40 = .ok (.iinc 2 1, 3) := by decide +kernel
theorem dX9_useful_43 : decode cX9_useful 43 = .ok (.goto (-39), 3) := by decide +kernel
theorem dX9_useful_46 : decode cX9_useful 46 = .ok (.iload_n 1, 1) := by decide +kernel
theorem dX9_useful_47 : decode cX9_useful 47 = .ok (.ireturn, 1) := by decide +kernel
theorem dX9_needed_0 : decode cX9_needed 0 = .ok (.aload_n 0, 1) := by decide +kernel
theorem dX9_needed_1 : decode cX9_needed 1 = .ok (.invokevirtual 146, 3) := by decide +kernel
theorem dX9_needed_4 : decode cX9_needed 4 = .ok (.aload_n 0, 1) := by decide +kernel
theorem dX9_needed_5 : decode cX9_needed 5 = .ok (.invokevirtual 158, 3) := by decide +kernel
theorem dX9_needed_8 : decode cX9_needed 8 = .ok (.istore_n 1, 1) := by decide +kernel
theorem dX9_needed_9 : decode cX9_needed 9 = .ok (.bipush (-4), 2) := by decide +kernel
theorem dX9_needed_11 : decode cX9_needed 11 = .ok (.istore_n 2, 1) := by decide +kernel
theorem dX9_needed_12 : decode cX9_needed 12 = .ok (.iconst 0, 1) := by decide +kernel
theorem dX9_needed_13 : decode cX9_needed 13 = .ok (.istore_n 3, 1) := by decide +kernel
theorem dX9_needed_14 : decode cX9_needed 14 = .ok (.iload_n 3, 1) := by decide +kernel
theorem dX9_needed_15 : decode cX9_needed 15 = .ok (.iconst 1, 1) := by decide +kernel
theorem dX9_needed_16 : decode cX9_needed 16 = .ok (.aload_n 0, 1) := by decide +kernel
theorem dX9_needed_17 : decode cX9_needed 17 = .ok (.getfield 13, 3) := by decide +kernel
theorem dX9_needed_20 : decode cX9_needed 20 = .ok (.iconst 1, 1) := by decide +kernel
theorem dX9_needed_21 : decode cX9_needed 21 = .ok (.iaload, 1) := by decide +kernel
theorem dX9_needed_22 : decode cX9_needed 22 = .ok (.ishl, 1) := by decide +kernel
theorem dX9_needed_23 : decode cX9_needed 23 = .ok (.if_icmp .ge 62, 3) := by decide +kernel
theorem dX9_needed_26 : decode cX9_needed 26 = .ok (.iload_n 3, 1) := by decide +kernel
theorem dX9_needed_27 : decode cX9_needed 27 = .ok (.iload_n 1, 1) := by decide +kernel
theorem dX9_needed_28 : decode cX9_needed 28 = .ok (.iconst (-1), 1) := by decide +kernel
theorem dX9_needed_29 : decode cX9_needed 29 = .ok (.ixor, 1) := by decide +kernel
theorem dX9_needed_30 : decode cX9_needed 30 = .ok (.iand, 1) := by decide +kernel
theorem dX9_needed_31 : decode cX9_needed 31 = .ok (.ifCond .ne 48, 3) := by decide +kernel
theorem dX9_needed_34 : decode cX9_needed 34 = .ok (.iload_n 2, 1) := by decide +kernel
theorem dX9_needed_35 : decode cX9_needed 35 = .ok (.bipush (-4), 2) := by decide +kernel
theorem dX9_needed_37 : decode cX9_needed 37 = .ok (.if_icmp .eq 14, 3) := by decide +kernel
theorem dX9_needed_40 : decode cX9_needed 40 = .ok (.iload_n 3, 1) := by decide +kernel
theorem dX9_needed_41 : decode cX9_needed 41 = .ok (.invokestatic 161, 3) := by decide +kernel
theorem dX9_needed_44 : decode cX9_needed 44 = .ok (.iload_n 2, 1) := by decide +kernel
theorem dX9_needed_45 : decode cX9_needed 45 = .ok (.invokestatic 161, 3) := by decide +kernel
theorem dX9_needed_48 : decode cX9_needed 48 = .ok (.if_icmp .ge 31, 3) := by decide +kernel
theorem dX9_needed_51 : decode cX9_needed 51 = .ok (.aload_n 0, 1) := by decide +kernel
theorem dX9_needed_52 : decode cX9_needed 52 = .ok (.getfield 22, 3) := by decide +kernel
theorem dX9_needed_55 : decode cX9_needed 55 = .ok (.iconst 1, 1) := by decide +kernel
theorem dX9_needed_56 : decode cX9_needed 56 = .ok (.iload_n 3, 1) := by decide +kernel
theorem dX9_needed_57 : decode cX9_needed 57 = .ok (.iastore, 1) := by decide +kernel
theorem dX9_needed_58 : decode cX9_needed 58 = .ok (.aload_n 0, 1) := by decide +kernel
theorem dX9_needed_59 : decode cX9_needed 59 = .ok (.bipush 12, 2) := by decide +kernel
theorem dX9_needed_61 : decode cX9_needed 61 = .ok (.invokevirtual 149, 3) := by decide +kernel
theorem dX9_needed_64 : decode cX9_needed 64 = .ok (.bipush 12, 2) := by decide +kernel
theorem dX9_needed_66 : decode cX9_needed 66 = .ok (.if_icmp .le 7, 3) := by decide +kernel
theorem dX9_needed_69 : decode cX9_needed 69 = .ok (.iload_n 3, 1) := by decide +kernel
theorem dX9_needed_70 : decode cX9_needed 70 = .ok (.goto 4, 3) := by decide +kernel
theorem dX9_needed_73 : decode cX9_needed 73 = .ok (.iload_n 2, 1) := by decide +kernel
theorem dX9_needed_74 : decode cX9_needed 74 = .ok (.istore_n 2, 1) := by decide +kernel
theorem dX9_needed_75 : decode cX9_needed 75 = .ok (.aload_n 0, 1) := by decide +kernel
theorem dX9_needed_76 : decode cX9_needed 76 = .ok (.invokevirtual 152, 3) := by decide +kernel
theorem dX9_needed_79 : decode cX9_needed 79 = .ok (.iinc 3 1, 3) := by decide +kernel
theorem dX9_needed_82 : decode cX9_needed 82 = .ok (.goto (-68), 3) := by decide +kernel
theorem dX9_needed_85 : decode cX9_needed 85 = .ok (.iload_n 2, 1) := by decide +kernel
theorem dX9_needed_86 : decode cX9_needed 86 = .ok (.ireturn, 1) := by decide +kernel
theorem dX9_cuts_0 : decode cX9_cuts 0 = .ok (.aload_n 0, 1) := by decide +kernel
theorem dX9_cuts_1 : decode cX9_cuts 1 = .ok (.invokevirtual 146, 3) := by decide +kernel
theorem dX9_cuts_4 : decode cX9_cuts 4 = .ok (.bipush (-4), 2) := by decide +kernel
theorem dX9_cuts_6 : decode cX9_cuts 6 = .ok (.istore_n 1, 1) := by decide +kernel
theorem dX9_cuts_7 : decode cX9_cuts 7 = .ok (.iconst 0, 1) := by decide +kernel
theorem dX9_cuts_8 : decode cX9_cuts 8 = .ok (.istore_n 2, 1) := by decide +kernel
theorem dX9_cuts_9 : decode cX9_cuts 9 = .ok (.iload_n 2, 1) := by decide +kernel
theorem dX9_cuts_10 : decode cX9_cuts 10 = .ok (.iconst 1, 1) := by decide +kernel
theorem dX9_cuts_11 : decode cX9_cuts 11 = .ok (.aload_n 0, 1) := by decide +kernel
theorem dX9_cuts_12 : decode cX9_cuts 12 = .ok (.getfield 13, 3) := by decide +kernel
theorem dX9_cuts_15 : decode cX9_cuts 15 = .ok (.iconst 1, 1) := by decide +kernel
theorem dX9_cuts_16 : decode cX9_cuts 16 = .ok (.iaload, 1) := by decide +kernel
theorem dX9_cuts_17 : decode cX9_cuts 17 = .ok (.ishl, 1) := by decide +kernel
theorem dX9_cuts_18 : decode cX9_cuts 18 = .ok (.if_icmp .ge 72, 3) := by decide +kernel
theorem dX9_cuts_21 : decode cX9_cuts 21 = .ok (.iload_n 2, 1) := by decide +kernel
theorem dX9_cuts_22 : decode cX9_cuts 22 = .ok (.aload_n 0, 1) := by decide +kernel
theorem dX9_cuts_23 : decode cX9_cuts 23 = .ok (.getfield 22, 3) := by decide +kernel
theorem dX9_cuts_26 : decode cX9_cuts 26 = .ok (.iconst 1, 1) := by decide +kernel
theorem dX9_cuts_27 : decode cX9_cuts 27 = .ok (.iaload, 1) := by decide +kernel
theorem dX9_cuts_28 : decode cX9_cuts 28 = .ok (.iconst (-1), 1) := by decide +kernel
theorem dX9_cuts_29 : decode cX9_cuts 29 = .ok (.ixor, 1) := by decide +kernel
theorem dX9_cuts_30 : decode cX9_cuts 30 = .ok (.iand, 1) := by decide +kernel
theorem dX9_cuts_31 : decode cX9_cuts 31 = .ok (.ifCond .ne 53, 3) := by decide +kernel
theorem dX9_cuts_34 : decode cX9_cuts 34 = .ok (.iload_n 1, 1) := by decide +kernel
theorem dX9_cuts_35 : decode cX9_cuts 35 = .ok (.bipush (-4), 2) := by decide +kernel
theorem dX9_cuts_37 : decode cX9_cuts 37 = .ok (.if_icmp .eq 14, 3) := by decide +kernel
theorem dX9_cuts_40 : decode cX9_cuts 40 = .ok (.iload_n 2, 1) := by decide +kernel
theorem dX9_cuts_41 : decode cX9_cuts 41 = .ok (.invokestatic 161, 3) := by decide +kernel
theorem dX9_cuts_44 : decode cX9_cuts 44 = .ok (.iload_n 1, 1) := by decide +kernel
theorem dX9_cuts_45 : decode cX9_cuts 45 = .ok (.invokestatic 161, 3) := by decide +kernel
theorem dX9_cuts_48 : decode cX9_cuts 48 = .ok (.if_icmp .ge 36, 3) := by decide +kernel
theorem dX9_cuts_51 : decode cX9_cuts 51 = .ok (.aload_n 0, 1) := by decide +kernel
theorem dX9_cuts_52 : decode cX9_cuts 52 = .ok (.getfield 22, 3) := by decide +kernel
theorem dX9_cuts_55 : decode cX9_cuts 55 = .ok (.iconst 1, 1) := by decide +kernel
theorem dX9_cuts_56 : decode cX9_cuts 56 = .ok (.dup2, 1) := by decide +kernel
theorem dX9_cuts_57 : decode cX9_cuts 57 = .ok (.iaload, 1) := by decide +kernel
theorem dX9_cuts_58 : decode cX9_cuts 58 = .ok (.iload_n 2, 1) := by decide +kernel
theorem dX9_cuts_59 : decode cX9_cuts 59 = .ok (.iconst (-1), 1) := by decide +kernel
theorem dX9_cuts_60 : decode cX9_cuts 60 = .ok (.ixor, 1) := by decide +kernel
theorem dX9_cuts_61 : decode cX9_cuts 61 = .ok (.iand, 1) := by decide +kernel
theorem dX9_cuts_62 : decode cX9_cuts 62 = .ok (.iastore, 1) := by decide +kernel
theorem dX9_cuts_63 : decode cX9_cuts 63 = .ok (.aload_n 0, 1) := by decide +kernel
theorem dX9_cuts_64 : decode cX9_cuts 64 = .ok (.bipush 24, 2) := by decide +kernel
theorem dX9_cuts_66 : decode cX9_cuts 66 = .ok (.invokevirtual 149, 3) := by decide +kernel
theorem dX9_cuts_69 : decode cX9_cuts 69 = .ok (.bipush 24, 2) := by decide +kernel
theorem dX9_cuts_71 : decode cX9_cuts 71 = .ok (.if_icmp .le 7, 3) := by decide +kernel
theorem dX9_cuts_74 : decode cX9_cuts 74 = .ok (.iload_n 1, 1) := by decide +kernel
theorem dX9_cuts_75 : decode cX9_cuts 75 = .ok (.goto 4, 3) := by decide +kernel
theorem dX9_cuts_78 : decode cX9_cuts 78 = .ok (.iload_n 2, 1) := by decide +kernel
theorem dX9_cuts_79 : decode cX9_cuts 79 = .ok (.istore_n 1, 1) := by decide +kernel
theorem dX9_cuts_80 : decode cX9_cuts 80 = .ok (.aload_n 0, 1) := by decide +kernel
theorem dX9_cuts_81 : decode cX9_cuts 81 = .ok (.invokevirtual 152, 3) := by decide +kernel
theorem dX9_cuts_84 : decode cX9_cuts 84 = .ok (.iinc 2 1, 3) := by decide +kernel
theorem dX9_cuts_87 : decode cX9_cuts 87 = .ok (.goto (-78), 3) := by decide +kernel
theorem dX9_cuts_90 : decode cX9_cuts 90 = .ok (.iload_n 1, 1) := by decide +kernel
theorem dX9_cuts_91 : decode cX9_cuts 91 = .ok (.ireturn, 1) := by decide +kernel
theorem dX9_rises_0 : decode cX9_rises 0 = .ok (.aload_n 0, 1) := by decide +kernel
theorem dX9_rises_1 : decode cX9_rises 1 = .ok (.getfield 22, 3) := by decide +kernel
theorem dX9_rises_4 : decode cX9_rises 4 = .ok (.iconst 1, 1) := by decide +kernel
theorem dX9_rises_5 : decode cX9_rises 5 = .ok (.dup2, 1) := by decide +kernel
theorem dX9_rises_6 : decode cX9_rises 6 = .ok (.iaload, 1) := by decide +kernel
theorem dX9_rises_7 : decode cX9_rises 7 = .ok (.aload_n 0, 1) := by decide +kernel
theorem dX9_rises_8 : decode cX9_rises 8 = .ok (.aload_n 0, 1) := by decide +kernel
theorem dX9_rises_9 : decode cX9_rises 9 = .ok (.getfield 22, 3) := by decide +kernel
theorem dX9_rises_12 : decode cX9_rises 12 = .ok (.bipush 9, 2) := by decide +kernel
theorem dX9_rises_14 : decode cX9_rises 14 = .ok (.iload_n 1, 1) := by decide +kernel
theorem dX9_rises_15 : decode cX9_rises 15 = .ok (.iadd, 1) := by decide +kernel
theorem dX9_rises_16 : decode cX9_rises 16 = .ok (.iaload, 1) := by decide +kernel
theorem dX9_rises_17 : decode cX9_rises 17 = .ok (.invokevirtual 98, 3) := by decide +kernel
theorem dX9_rises_20 : decode cX9_rises 20 = .ok (.ifCond .eq 7, 3) := by decide +kernel
theorem dX9_rises_23 : decode cX9_rises 23 = .ok (.iconst 0, 1) := by decide +kernel
theorem dX9_rises_24 : decode cX9_rises 24 = .ok (.goto 6, 3) := by decide +kernel
theorem dX9_rises_27 : decode cX9_rises 27 = .ok (.iconst 1, 1) := by decide +kernel
theorem dX9_rises_28 : decode cX9_rises 28 = .ok (.iload_n 1, 1) := by decide +kernel
theorem dX9_rises_29 : decode cX9_rises 29 = .ok (.ishl, 1) := by decide +kernel
theorem dX9_rises_30 : decode cX9_rises 30 = .ok (.ior, 1) := by decide +kernel
theorem dX9_rises_31 : decode cX9_rises 31 = .ok (.iastore, 1) := by decide +kernel
theorem dX9_rises_32 : decode cX9_rises 32 = .ok (.return_, 1) := by decide +kernel
theorem dX9_hourOf_0 : decode cX9_hourOf 0 = .ok (.iload_n 0, 1) := by decide +kernel
theorem dX9_hourOf_1 : decode cX9_hourOf 1 = .ok (.istore 4, 2) := by decide +kernel
theorem dX9_hourOf_3 : decode cX9_hourOf 3 = .ok (.iload_n 2, 1) := by decide +kernel
theorem dX9_hourOf_4 : decode cX9_hourOf 4 = .ok (.iconst 1, 1) := by decide +kernel
theorem dX9_hourOf_5 : decode cX9_hourOf 5 = .ok (.isub, 1) := by decide +kernel
theorem dX9_hourOf_6 : decode cX9_hourOf 6 = .ok (.istore 5, 2) := by decide +kernel
theorem dX9_hourOf_8 : decode cX9_hourOf 8 = .ok (.iload 5, 2) := by decide +kernel
theorem dX9_hourOf_10 : decode cX9_hourOf 10 = .ok (.iload_n 1, 1) := by decide +kernel
theorem dX9_hourOf_11 : decode cX9_hourOf 11 = .ok (.if_icmp .le 15, 3) := by decide +kernel
theorem dX9_hourOf_14 : decode cX9_hourOf 14 = .ok (.iload 4, 2) := by decide +kernel
theorem dX9_hourOf_16 : decode cX9_hourOf 16 = .ok (.iload_n 3, 1) := by decide +kernel
theorem dX9_hourOf_17 : decode cX9_hourOf 17 = .ok (.idiv, 1) := by decide +kernel
theorem dX9_hourOf_18 : decode cX9_hourOf 18 = .ok (.istore 4, 2) := by decide +kernel
theorem dX9_hourOf_20 : decode cX9_hourOf 20 = .ok (.iinc 5 (-1), 3) := by decide +kernel
theorem dX9_hourOf_23 : decode cX9_hourOf 23 = .ok (.goto (-15), 3) := by decide +kernel
theorem dX9_hourOf_26 : decode cX9_hourOf 26 = .ok (.iload 4, 2) := by decide +kernel
theorem dX9_hourOf_28 : decode cX9_hourOf 28 = .ok (.iload_n 3, 1) := by decide +kernel
theorem dX9_hourOf_29 : decode cX9_hourOf 29 = .ok (.irem, 1) := by decide +kernel
theorem dX9_hourOf_30 : decode cX9_hourOf 30 = .ok (.ireturn, 1) := by decide +kernel
theorem dX9_isRoster_0 : decode cX9_isRoster 0 = .ok (.aload_n 0, 1) := by decide +kernel
theorem dX9_isRoster_1 : decode cX9_isRoster 1 = .ok (.getfield 31, 3) := by decide +kernel
theorem dX9_isRoster_4 : decode cX9_isRoster 4 = .ok (.iconst 1, 1) := by decide +kernel
theorem dX9_isRoster_5 : decode cX9_isRoster 5 = .ok (.iaload, 1) := by decide +kernel
theorem dX9_isRoster_6 : decode cX9_isRoster 6 = .ok (.istore_n 3, 1) := by decide +kernel
theorem dX9_isRoster_7 : decode cX9_isRoster 7 = .ok (.iload_n 3, 1) := by decide +kernel
theorem dX9_isRoster_8 : decode cX9_isRoster 8 = .ok (.invokestatic 161, 3) := by decide +kernel
theorem dX9_isRoster_11 : decode cX9_isRoster 11 = .ok (.istore 4, 2) := by decide +kernel
theorem dX9_isRoster_13 : decode cX9_isRoster 13 = .ok (.iconst 1, 1) := by decide +kernel
theorem dX9_isRoster_14 : decode cX9_isRoster 14 = .ok (.istore 5, 2) := by decide +kernel
theorem dX9_isRoster_16 : decode cX9_isRoster 16 = .ok (.iconst 0, 1) := by decide +kernel
theorem dX9_isRoster_17 : decode cX9_isRoster 17 = .ok (.istore 6, 2) := by decide +kernel
theorem dX9_isRoster_19 : decode cX9_isRoster 19 = .ok (.iload 6, 2) := by decide +kernel
theorem dX9_isRoster_21 : decode cX9_isRoster 21 = .ok (.iload_n 2, 1) := by decide +kernel
theorem dX9_isRoster_22 : decode cX9_isRoster 22 = .ok (.if_icmp .ge 126, 3) := by decide +kernel
theorem dX9_isRoster_25 : decode cX9_isRoster 25 = .ok (.iload 5, 2) := by decide +kernel
theorem dX9_isRoster_27 : decode cX9_isRoster 27 = .ok (.ifCond .eq 121, 3) := by decide +kernel
theorem dX9_isRoster_30 : decode cX9_isRoster 30 = .ok (.iconst 0, 1) := by decide +kernel
theorem dX9_isRoster_31 : decode cX9_isRoster 31 = .ok (.istore 7, 2) := by decide +kernel
theorem dX9_isRoster_33 : decode cX9_isRoster 33 = .ok (.iconst 0, 1) := by decide +kernel
theorem dX9_isRoster_34 : decode cX9_isRoster 34 = .ok (.istore 8, 2) := by decide +kernel
theorem dX9_isRoster_36 : decode cX9_isRoster 36 = .ok (.iload 8, 2) := by decide +kernel
theorem dX9_isRoster_38 : decode cX9_isRoster 38 = .ok (.aload_n 0, 1) := by decide +kernel
theorem dX9_isRoster_39 : decode cX9_isRoster 39 = .ok (.getfield 13, 3) := by decide +kernel
theorem dX9_isRoster_42 : decode cX9_isRoster 42 = .ok (.iconst 1, 1) := by decide +kernel
theorem dX9_isRoster_43 : decode cX9_isRoster 43 = .ok (.iaload, 1) := by decide +kernel
theorem dX9_isRoster_44 : decode cX9_isRoster 44 = .ok (.if_icmp .ge 72, 3) := by decide +kernel
theorem dX9_isRoster_47 : decode cX9_isRoster 47 = .ok (.iload_n 3, 1) := by decide +kernel
theorem dX9_isRoster_48 : decode cX9_isRoster 48 = .ok (.iload 8, 2) := by decide +kernel
theorem dX9_isRoster_50 : decode cX9_isRoster 50 = .ok (.invokestatic 94, 3) := by decide +kernel
theorem dX9_isRoster_53 : decode cX9_isRoster 53 = .ok (.ifCond .eq 57, 3) := by decide +kernel
theorem dX9_isRoster_56 : decode cX9_isRoster 56 = .ok (.iload_n 1, 1) := by decide +kernel
theorem dX9_isRoster_57 : decode cX9_isRoster 57 = .ok (.iload 7, 2) := by decide +kernel
theorem dX9_isRoster_59 : decode cX9_isRoster 59 = .ok (.iload 4, 2) := by decide +kernel
theorem dX9_isRoster_61 : decode cX9_isRoster 61 = .ok (.iload_n 2, 1) := by decide +kernel
theorem dX9_isRoster_62 : decode cX9_isRoster 62 = .ok (.invokestatic 164, 3) := by decide +kernel
theorem dX9_isRoster_65 : decode cX9_isRoster 65 = .ok (.istore 9, 2) := by decide +kernel
theorem dX9_isRoster_67 : decode cX9_isRoster 67 = .ok (.iload 9, 2) := by decide +kernel
theorem dX9_isRoster_69 : decode cX9_isRoster 69 = .ok (.iload 6, 2) := by decide +kernel
theorem dX9_isRoster_71 : decode cX9_isRoster 71 = .ok (.iconst 1, 1) := by decide +kernel
theorem dX9_isRoster_72 : decode cX9_isRoster 72 = .ok (.isub, 1) := by decide +kernel
theorem dX9_isRoster_73 : decode cX9_isRoster 73 = .ok (.if_icmp .ne 12, 3) := by decide +kernel
theorem dX9_isRoster_76 : decode cX9_isRoster 76 = .ok (.aload_n 0, 1) := by decide +kernel
theorem dX9_isRoster_77 : decode cX9_isRoster 77 = .ok (.iload 8, 2) := by decide +kernel
theorem dX9_isRoster_79 : decode cX9_isRoster 79 = .ok (.invokevirtual 168, 3) := by decide +kernel
theorem dX9_isRoster_82 : decode cX9_isRoster 82 = .ok (.goto 25, 3) := by decide +kernel
theorem dX9_isRoster_85 : decode cX9_isRoster 85 = .ok (.iload 9, 2) := by decide +kernel
theorem dX9_isRoster_87 : decode cX9_isRoster 87 = .ok (.iload 6, 2) := by decide +kernel
theorem dX9_isRoster_89 : decode cX9_isRoster 89 = .ok (.if_icmp .ne 18, 3) := by decide +kernel
theorem dX9_isRoster_92 : decode cX9_isRoster 92 = .ok (.aload_n 0, 1) := by decide +kernel
theorem dX9_isRoster_93 : decode cX9_isRoster 93 = .ok (.getfield 22, 3) := by decide +kernel
theorem dX9_isRoster_96 : decode cX9_isRoster 96 = .ok (.iconst 1, 1) := by decide +kernel
theorem dX9_isRoster_97 : decode cX9_isRoster 97 = .ok (.dup2, 1) := by decide +kernel
theorem dX9_isRoster_98 : decode cX9_isRoster 98 = .ok (.iaload, 1) := by decide +kernel
theorem dX9_isRoster_99 : decode cX9_isRoster 99 = .ok (.iconst 1, 1) := by decide +kernel
theorem dX9_isRoster_100 : decode cX9_isRoster 100 = .ok (.iload 8, 2) := by decide +kernel
theorem dX9_isRoster_102 : decode cX9_isRoster 102 = .ok (.ishl, 1) := by decide +kernel
theorem dX9_isRoster_103 : decode cX9_isRoster 103 = .ok (.iconst (-1), 1) := by decide +kernel
theorem dX9_isRoster_104 : decode cX9_isRoster 104 = .ok (.ixor, 1) := by decide +kernel
theorem dX9_isRoster_105 : decode cX9_isRoster 105 = .ok (.iand, 1) := by decide +kernel
theorem dX9_isRoster_106 : decode cX9_isRoster 106 = .ok (.iastore, 1) := by decide +kernel
theorem dX9_isRoster_107 : decode cX9_isRoster 107 = .ok (.iinc 7 1, 3) := by decide +kernel
theorem dX9_isRoster_110 : decode cX9_isRoster 110 = .ok (.iinc 8 1, 3) := by decide +kernel
theorem dX9_isRoster_113 : decode cX9_isRoster 113 = .ok (.goto (-77), 3) := by decide +kernel
theorem dX9_isRoster_116 : decode cX9_isRoster 116 = .ok (.aload_n 0, 1) := by decide +kernel
theorem dX9_isRoster_117 : decode cX9_isRoster 117 = .ok (.invokevirtual 134, 3) := by decide +kernel
theorem dX9_isRoster_120 : decode cX9_isRoster 120 = .ok (.aload_n 0, 1) := by decide +kernel
theorem dX9_isRoster_121 : decode cX9_isRoster 121 = .ok (.getfield 22, 3) := by decide +kernel
theorem dX9_isRoster_124 : decode cX9_isRoster 124 = .ok (.iconst 2, 1) := by decide +kernel
theorem dX9_isRoster_125 : decode cX9_isRoster 125 = .ok (.iaload, 1) := by decide +kernel
theorem dX9_isRoster_126 : decode cX9_isRoster 126 = .ok (.aload_n 0, 1) := by decide +kernel
theorem dX9_isRoster_127 : decode cX9_isRoster 127 = .ok (.getfield 31, 3) := by decide +kernel
theorem dX9_isRoster_130 : decode cX9_isRoster 130 = .ok (.iconst 2, 1) := by decide +kernel
theorem dX9_isRoster_131 : decode cX9_isRoster 131 = .ok (.iaload, 1) := by decide +kernel
theorem dX9_isRoster_132 : decode cX9_isRoster 132 = .ok (.if_icmp .ne 7, 3) := by decide +kernel
theorem dX9_isRoster_135 : decode cX9_isRoster 135 = .ok (.iconst 1, 1) := by decide +kernel
theorem dX9_isRoster_136 : decode cX9_isRoster 136 = .ok (.goto 4, 3) := by decide +kernel
theorem dX9_isRoster_139 : decode cX9_isRoster 139 = .ok (.iconst 0, 1) := by decide +kernel
theorem dX9_isRoster_140 : decode cX9_isRoster 140 = .ok (.istore 5, 2) := by decide +kernel
theorem dX9_isRoster_142 : decode cX9_isRoster 142 = .ok (.iinc 6 1, 3) := by decide +kernel
theorem dX9_isRoster_145 : decode cX9_isRoster 145 = .ok (.goto (-126), 3) := by decide +kernel
theorem dX9_isRoster_148 : decode cX9_isRoster 148 = .ok (.aload_n 0, 1) := by decide +kernel
theorem dX9_isRoster_149 : decode cX9_isRoster 149 = .ok (.invokevirtual 152, 3) := by decide +kernel
theorem dX9_isRoster_152 : decode cX9_isRoster 152 = .ok (.iload 5, 2) := by decide +kernel
theorem dX9_isRoster_154 : decode cX9_isRoster 154 = .ok (.ireturn, 1) := by decide +kernel
theorem dX9_roster_0 : decode cX9_roster 0 = .ok (.iload_n 1, 1) := by decide +kernel
theorem dX9_roster_1 : decode cX9_roster 1 = .ok (.iconst 1, 1) := by decide +kernel
theorem dX9_roster_2 : decode cX9_roster 2 = .ok (.iconst 5, 1) := by decide +kernel
theorem dX9_roster_3 : decode cX9_roster 3 = .ok (.invokestatic 52, 3) := by decide +kernel
theorem dX9_roster_6 : decode cX9_roster 6 = .ok (.ifCond .eq 16, 3) := by decide +kernel
theorem dX9_roster_9 : decode cX9_roster 9 = .ok (.iload_n 2, 1) := by decide +kernel
theorem dX9_roster_10 : decode cX9_roster 10 = .ok (.iconst (-1), 1) := by decide +kernel
theorem dX9_roster_11 : decode cX9_roster 11 = .ok (.if_icmp .eq 13, 3) := by decide +kernel
theorem dX9_roster_14 : decode cX9_roster 14 = .ok (.aload_n 0, 1) := by decide +kernel
theorem dX9_roster_15 : decode cX9_roster 15 = .ok (.iload_n 2, 1) := by decide +kernel
theorem dX9_roster_16 : decode cX9_roster 16 = .ok (.invokevirtual 119, 3) := by decide +kernel
theorem dX9_roster_19 : decode cX9_roster 19 = .ok (.ifCond .ne 5, 3) := by decide +kernel
theorem dX9_roster_22 : decode cX9_roster 22 = .ok (.iconst (-1), 1) := by decide +kernel
theorem dX9_roster_23 : decode cX9_roster 23 = .ok (.ireturn, 1) := by decide +kernel
theorem dX9_roster_24 : decode cX9_roster 24 = .ok (.aload_n 0, 1) := by decide +kernel
theorem dX9_roster_25 : decode cX9_roster 25 = .ok (.invokevirtual 146, 3) := by decide +kernel
theorem dX9_roster_28 : decode cX9_roster 28 = .ok (.aload_n 0, 1) := by decide +kernel
theorem dX9_roster_29 : decode cX9_roster 29 = .ok (.getfield 22, 3) := by decide +kernel
theorem dX9_roster_32 : decode cX9_roster 32 = .ok (.iconst 1, 1) := by decide +kernel
theorem dX9_roster_33 : decode cX9_roster 33 = .ok (.iaload, 1) := by decide +kernel
theorem dX9_roster_34 : decode cX9_roster 34 = .ok (.invokestatic 161, 3) := by decide +kernel
theorem dX9_roster_37 : decode cX9_roster 37 = .ok (.istore_n 3, 1) := by decide +kernel
theorem dX9_roster_38 : decode cX9_roster 38 = .ok (.iconst 1, 1) := by decide +kernel
theorem dX9_roster_39 : decode cX9_roster 39 = .ok (.istore 4, 2) := by decide +kernel
theorem dX9_roster_41 : decode cX9_roster 41 = .ok (.iconst 0, 1) := by decide +kernel
theorem dX9_roster_42 : decode cX9_roster 42 = .ok (.istore 5, 2) := by decide +kernel
theorem dX9_roster_44 : decode cX9_roster 44 = .ok (.iload 5, 2) := by decide +kernel
theorem dX9_roster_46 : decode cX9_roster 46 = .ok (.iload_n 3, 1) := by decide +kernel
theorem dX9_roster_47 : decode cX9_roster 47 = .ok (.if_icmp .ge 15, 3) := by decide +kernel
theorem dX9_roster_50 : decode cX9_roster 50 = .ok (.iload 4, 2) := by decide +kernel
theorem dX9_roster_52 : decode cX9_roster 52 = .ok (.iload_n 1, 1) := by decide +kernel
theorem dX9_roster_53 : decode cX9_roster 53 = .ok (.imul, 1) := by decide +kernel
theorem dX9_roster_54 : decode cX9_roster 54 = .ok (.istore 4, 2) := by decide +kernel
theorem dX9_roster_56 : decode cX9_roster 56 = .ok (.iinc 5 1, 3) := by decide +kernel
theorem dX9_roster_59 : decode cX9_roster 59 = .ok (.goto (-15), 3) := by decide +kernel
theorem dX9_roster_62 : decode cX9_roster 62 = .ok (.iconst 0, 1) := by decide +kernel
theorem dX9_roster_63 : decode cX9_roster 63 = .ok (.istore 5, 2) := by decide +kernel
theorem dX9_roster_65 : decode cX9_roster 65 = .ok (.iload 5, 2) := by decide +kernel
theorem dX9_roster_67 : decode cX9_roster 67 = .ok (.iload 4, 2) := by decide +kernel
theorem dX9_roster_69 : decode cX9_roster 69 = .ok (.if_icmp .ge 19, 3) := by decide +kernel
theorem dX9_roster_72 : decode cX9_roster 72 = .ok (.aload_n 0, 1) := by decide +kernel
theorem dX9_roster_73 : decode cX9_roster 73 = .ok (.iload 5, 2) := by decide +kernel
theorem dX9_roster_75 : decode cX9_roster 75 = .ok (.iload_n 1, 1) := by decide +kernel
theorem dX9_roster_76 : decode cX9_roster 76 = .ok (.invokevirtual 172, 3) := by decide +kernel
theorem dX9_roster_79 : decode cX9_roster 79 = .ok (.ifCond .ne 9, 3) := by decide +kernel
theorem dX9_roster_82 : decode cX9_roster 82 = .ok (.iinc 5 1, 3) := by decide +kernel
theorem dX9_roster_85 : decode cX9_roster 85 = .ok (.goto (-20), 3) := by decide +kernel
theorem dX9_roster_88 : decode cX9_roster 88 = .ok (.iload 5, 2) := by decide +kernel
theorem dX9_roster_90 : decode cX9_roster 90 = .ok (.iload 4, 2) := by decide +kernel
theorem dX9_roster_92 : decode cX9_roster 92 = .ok (.if_icmp .eq 20, 3) := by decide +kernel
theorem dX9_roster_95 : decode cX9_roster 95 = .ok (.iload_n 2, 1) := by decide +kernel
theorem dX9_roster_96 : decode cX9_roster 96 = .ok (.ifCond .lt 19, 3) := by decide +kernel
theorem dX9_roster_99 : decode cX9_roster 99 = .ok (.aload_n 0, 1) := by decide +kernel
theorem dX9_roster_100 : decode cX9_roster 100 = .ok (.getfield 22, 3) := by decide +kernel
theorem dX9_roster_103 : decode cX9_roster 103 = .ok (.iconst 1, 1) := by decide +kernel
theorem dX9_roster_104 : decode cX9_roster 104 = .ok (.iaload, 1) := by decide +kernel
theorem dX9_roster_105 : decode cX9_roster 105 = .ok (.iload_n 2, 1) := by decide +kernel
theorem dX9_roster_106 : decode cX9_roster 106 = .ok (.invokestatic 94, 3) := by decide +kernel
theorem dX9_roster_109 : decode cX9_roster 109 = .ok (.ifCond .ne 6, 3) := by decide +kernel
theorem dX9_roster_112 : decode cX9_roster 112 = .ok (.bipush (-4), 2) := by decide +kernel
theorem dX9_roster_114 : decode cX9_roster 114 = .ok (.ireturn, 1) := by decide +kernel
theorem dX9_roster_115 : decode cX9_roster 115 = .ok (.iload_n 2, 1) := by decide +kernel
theorem dX9_roster_116 : decode cX9_roster 116 = .ok (.iconst (-1), 1) := by decide +kernel
theorem dX9_roster_117 : decode cX9_roster 117 = .ok (.if_icmp .ne 7, 3) := by decide +kernel
theorem dX9_roster_120 : decode cX9_roster 120 = .ok (.iconst 1, 1) := by decide +kernel
theorem dX9_roster_121 : decode cX9_roster 121 = .ok (.goto 25, 3) := by decide +kernel
theorem dX9_roster_124 : decode cX9_roster 124 = .ok (.iload 5, 2) := by decide +kernel
theorem dX9_roster_126 : decode cX9_roster 126 = .ok (.aload_n 0, 1) := by decide +kernel
theorem dX9_roster_127 : decode cX9_roster 127 = .ok (.getfield 22, 3) := by decide +kernel
theorem dX9_roster_130 : decode cX9_roster 130 = .ok (.iconst 1, 1) := by decide +kernel
theorem dX9_roster_131 : decode cX9_roster 131 = .ok (.iaload, 1) := by decide +kernel
theorem dX9_roster_132 : decode cX9_roster 132 = .ok (.iconst 1, 1) := by decide +kernel
theorem dX9_roster_133 : decode cX9_roster 133 = .ok (.iload_n 2, 1) := by decide +kernel
theorem dX9_roster_134 : decode cX9_roster 134 = .ok (.ishl, 1) := by decide +kernel
theorem dX9_roster_135 : decode cX9_roster 135 = .ok (.iconst 1, 1) := by decide +kernel
theorem dX9_roster_136 : decode cX9_roster 136 = .ok (.isub, 1) := by decide +kernel
theorem dX9_roster_137 : decode cX9_roster 137 = .ok (.iand, 1) := by decide +kernel
theorem dX9_roster_138 : decode cX9_roster 138 = .ok (.invokestatic 161, 3) := by decide +kernel
theorem dX9_roster_141 : decode cX9_roster 141 = .ok (.iload_n 3, 1) := by decide +kernel
theorem dX9_roster_142 : decode cX9_roster 142 = .ok (.iload_n 1, 1) := by decide +kernel
theorem dX9_roster_143 : decode cX9_roster 143 = .ok (.invokestatic 164, 3) := by decide +kernel
theorem dX9_roster_146 : decode cX9_roster 146 = .ok (.ireturn, 1) := by decide +kernel
theorem dX9_place_0 : decode cX9_place 0 = .ok (.aload_n 0, 1) := by decide +kernel
theorem dX9_place_1 : decode cX9_place 1 = .ok (.iload_n 1, 1) := by decide +kernel
theorem dX9_place_2 : decode cX9_place 2 = .ok (.invokevirtual 119, 3) := by decide +kernel
theorem dX9_place_5 : decode cX9_place 5 = .ok (.ifCond .ne 5, 3) := by decide +kernel
theorem dX9_place_8 : decode cX9_place 8 = .ok (.iconst (-1), 1) := by decide +kernel
theorem dX9_place_9 : decode cX9_place 9 = .ok (.ireturn, 1) := by decide +kernel
theorem dX9_place_10 : decode cX9_place 10 = .ok (.aload_n 0, 1) := by decide +kernel
theorem dX9_place_11 : decode cX9_place 11 = .ok (.getfield 22, 3) := by decide +kernel
theorem dX9_place_14 : decode cX9_place 14 = .ok (.iconst 1, 1) := by decide +kernel
theorem dX9_place_15 : decode cX9_place 15 = .ok (.iaload, 1) := by decide +kernel
theorem dX9_place_16 : decode cX9_place 16 = .ok (.iload_n 1, 1) := by decide +kernel
theorem dX9_place_17 : decode cX9_place 17 = .ok (.invokestatic 94, 3) := by decide +kernel
theorem dX9_place_20 : decode cX9_place 20 = .ok (.ifCond .eq 6, 3) := by decide +kernel
theorem dX9_place_23 : decode cX9_place 23 = .ok (.bipush (-2), 2) := by decide +kernel
theorem dX9_place_25 : decode cX9_place 25 = .ok (.ireturn, 1) := by decide +kernel
theorem dX9_place_26 : decode cX9_place 26 = .ok (.aload_n 0, 1) := by decide +kernel
theorem dX9_place_27 : decode cX9_place 27 = .ok (.invokevirtual 146, 3) := by decide +kernel
theorem dX9_place_30 : decode cX9_place 30 = .ok (.bipush (-4), 2) := by decide +kernel
theorem dX9_place_32 : decode cX9_place 32 = .ok (.istore_n 2, 1) := by decide +kernel
theorem dX9_place_33 : decode cX9_place 33 = .ok (.iconst 0, 1) := by decide +kernel
theorem dX9_place_34 : decode cX9_place 34 = .ok (.istore_n 3, 1) := by decide +kernel
theorem dX9_place_35 : decode cX9_place 35 = .ok (.iconst 0, 1) := by decide +kernel
theorem dX9_place_36 : decode cX9_place 36 = .ok (.istore 4, 2) := by decide +kernel
theorem dX9_place_38 : decode cX9_place 38 = .ok (.iload 4, 2) := by decide +kernel
theorem dX9_place_40 : decode cX9_place 40 = .ok (.aload_n 0, 1) := by decide +kernel
theorem dX9_place_41 : decode cX9_place 41 = .ok (.getfield 13, 3) := by decide +kernel
theorem dX9_place_44 : decode cX9_place 44 = .ok (.iconst 0, 1) := by decide +kernel
theorem dX9_place_45 : decode cX9_place 45 = .ok (.iaload, 1) := by decide +kernel
theorem dX9_place_46 : decode cX9_place 46 = .ok (.if_icmp .ge 79, 3) := by decide +kernel
theorem dX9_place_49 : decode cX9_place 49 = .ok (.aload_n 0, 1) := by decide +kernel
theorem dX9_place_50 : decode cX9_place 50 = .ok (.iload 4, 2) := by decide +kernel
theorem dX9_place_52 : decode cX9_place 52 = .ok (.invokevirtual 98, 3) := by decide +kernel
theorem dX9_place_55 : decode cX9_place 55 = .ok (.ifCond .ne 64, 3) := by decide +kernel
theorem dX9_place_58 : decode cX9_place 58 = .ok (.aload_n 0, 1) := by decide +kernel
theorem dX9_place_59 : decode cX9_place 59 = .ok (.getfield 22, 3) := by decide +kernel
theorem dX9_place_62 : decode cX9_place 62 = .ok (.bipush 9, 2) := by decide +kernel
theorem dX9_place_64 : decode cX9_place 64 = .ok (.iload_n 1, 1) := by decide +kernel
theorem dX9_place_65 : decode cX9_place 65 = .ok (.iadd, 1) := by decide +kernel
theorem dX9_place_66 : decode cX9_place 66 = .ok (.iload 4, 2) := by decide +kernel
theorem dX9_place_68 : decode cX9_place 68 = .ok (.iastore, 1) := by decide +kernel
theorem dX9_place_69 : decode cX9_place 69 = .ok (.aload_n 0, 1) := by decide +kernel
theorem dX9_place_70 : decode cX9_place 70 = .ok (.getfield 22, 3) := by decide +kernel
theorem dX9_place_73 : decode cX9_place 73 = .ok (.iconst 1, 1) := by decide +kernel
theorem dX9_place_74 : decode cX9_place 74 = .ok (.dup2, 1) := by decide +kernel
theorem dX9_place_75 : decode cX9_place 75 = .ok (.iaload, 1) := by decide +kernel
theorem dX9_place_76 : decode cX9_place 76 = .ok (.iconst 1, 1) := by decide +kernel
theorem dX9_place_77 : decode cX9_place 77 = .ok (.iload_n 1, 1) := by decide +kernel
theorem dX9_place_78 : decode cX9_place 78 = .ok (.ishl, 1) := by decide +kernel
theorem dX9_place_79 : decode cX9_place 79 = .ok (.ior, 1) := by decide +kernel
theorem dX9_place_80 : decode cX9_place 80 = .ok (.iastore, 1) := by decide +kernel
theorem dX9_place_81 : decode cX9_place 81 = .ok (.aload_n 0, 1) := by decide +kernel
theorem dX9_place_82 : decode cX9_place 82 = .ok (.bipush 60, 2) := by decide +kernel
theorem dX9_place_84 : decode cX9_place 84 = .ok (.invokevirtual 149, 3) := by decide +kernel
theorem dX9_place_87 : decode cX9_place 87 = .ok (.istore 5, 2) := by decide +kernel
theorem dX9_place_89 : decode cX9_place 89 = .ok (.aload_n 0, 1) := by decide +kernel
theorem dX9_place_90 : decode cX9_place 90 = .ok (.invokevirtual 152, 3) := by decide +kernel
theorem dX9_place_93 : decode cX9_place 93 = .ok (.iload 5, 2) := by decide +kernel
theorem dX9_place_95 : decode cX9_place 95 = .ok (.iload_n 3, 1) := by decide +kernel
theorem dX9_place_96 : decode cX9_place 96 = .ok (.if_icmp .le 8, 3) := by decide +kernel
theorem dX9_place_99 : decode cX9_place 99 = .ok (.iload 4, 2) := by decide +kernel
theorem dX9_place_101 : decode cX9_place 101 = .ok (.goto 4, 3) := by decide +kernel
theorem dX9_place_104 : decode cX9_place 104 = .ok (.iload_n 2, 1) := by decide +kernel
theorem dX9_place_105 : decode cX9_place 105 = .ok (.istore_n 2, 1) := by decide +kernel
theorem dX9_place_106 : decode cX9_place 106 = .ok (.iload 5, 2) := by decide +kernel
theorem dX9_place_108 : decode cX9_place 108 = .ok (.iload_n 3, 1) := by decide +kernel
theorem dX9_place_109 : decode cX9_place 109 = .ok (.if_icmp .le 8, 3) := by decide +kernel
theorem dX9_place_112 : decode cX9_place 112 = .ok (.iload 5, 2) := by decide +kernel
theorem dX9_place_114 : decode cX9_place 114 = .ok (.goto 4, 3) := by decide +kernel
theorem dX9_place_117 : decode cX9_place 117 = .ok (.iload_n 3, 1) := by decide +kernel
theorem dX9_place_118 : decode cX9_place 118 = .ok (.istore_n 3, 1) := by decide +kernel
theorem dX9_place_119 : decode cX9_place 119 = .ok (.iinc 4 1, 3) := by decide +kernel
theorem dX9_place_122 : decode cX9_place 122 = .ok (.goto (-84), 3) := by decide +kernel
theorem dX9_place_125 : decode cX9_place 125 = .ok (.iload_n 2, 1) := by decide +kernel
theorem dX9_place_126 : decode cX9_place 126 = .ok (.ireturn, 1) := by decide +kernel
theorem dX9_strong_0 : decode cX9_strong 0 = .ok (.aload_n 0, 1) := by decide +kernel
theorem dX9_strong_1 : decode cX9_strong 1 = .ok (.iload_n 1, 1) := by decide +kernel
theorem dX9_strong_2 : decode cX9_strong 2 = .ok (.invokevirtual 119, 3) := by decide +kernel
theorem dX9_strong_5 : decode cX9_strong 5 = .ok (.ifCond .ne 5, 3) := by decide +kernel
theorem dX9_strong_8 : decode cX9_strong 8 = .ok (.iconst (-1), 1) := by decide +kernel
theorem dX9_strong_9 : decode cX9_strong 9 = .ok (.ireturn, 1) := by decide +kernel
theorem dX9_strong_10 : decode cX9_strong 10 = .ok (.aload_n 0, 1) := by decide +kernel
theorem dX9_strong_11 : decode cX9_strong 11 = .ok (.invokevirtual 146, 3) := by decide +kernel
theorem dX9_strong_14 : decode cX9_strong 14 = .ok (.aload_n 0, 1) := by decide +kernel
theorem dX9_strong_15 : decode cX9_strong 15 = .ok (.getfield 13, 3) := by decide +kernel
theorem dX9_strong_18 : decode cX9_strong 18 = .ok (.bipush 26, 2) := by decide +kernel
theorem dX9_strong_20 : decode cX9_strong 20 = .ok (.iload_n 1, 1) := by decide +kernel
theorem dX9_strong_21 : decode cX9_strong 21 = .ok (.iadd, 1) := by decide +kernel
theorem dX9_strong_22 : decode cX9_strong 22 = .ok (.iaload, 1) := by decide +kernel
theorem dX9_strong_23 : decode cX9_strong 23 = .ok (.istore_n 2, 1) := by decide +kernel
theorem dX9_strong_24 : decode cX9_strong 24 = .ok (.aload_n 0, 1) := by decide +kernel
theorem dX9_strong_25 : decode cX9_strong 25 = .ok (.getfield 13, 3) := by decide +kernel
theorem dX9_strong_28 : decode cX9_strong 28 = .ok (.bipush 26, 2) := by decide +kernel
theorem dX9_strong_30 : decode cX9_strong 30 = .ok (.iload_n 1, 1) := by decide +kernel
theorem dX9_strong_31 : decode cX9_strong 31 = .ok (.iadd, 1) := by decide +kernel
theorem dX9_strong_32 : decode cX9_strong 32 = .ok (.bipush 99, 2) := by decide +kernel
theorem dX9_strong_34 : decode cX9_strong 34 = .ok (.iastore, 1) := by decide +kernel
theorem dX9_strong_35 : decode cX9_strong 35 = .ok (.aload_n 0, 1) := by decide +kernel
theorem dX9_strong_36 : decode cX9_strong 36 = .ok (.bipush 60, 2) := by decide +kernel
theorem dX9_strong_38 : decode cX9_strong 38 = .ok (.invokevirtual 149, 3) := by decide +kernel
theorem dX9_strong_41 : decode cX9_strong 41 = .ok (.istore_n 3, 1) := by decide +kernel
theorem dX9_strong_42 : decode cX9_strong 42 = .ok (.aload_n 0, 1) := by decide +kernel
theorem dX9_strong_43 : decode cX9_strong 43 = .ok (.invokevirtual 152, 3) := by decide +kernel
theorem dX9_strong_46 : decode cX9_strong 46 = .ok (.iconst 0, 1) := by decide +kernel
theorem dX9_strong_47 : decode cX9_strong 47 = .ok (.istore 4, 2) := by decide +kernel
theorem dX9_strong_49 : decode cX9_strong 49 = .ok (.iconst 0, 1) := by decide +kernel
theorem dX9_strong_50 : decode cX9_strong 50 = .ok (.istore 5, 2) := by decide +kernel
theorem dX9_strong_52 : decode cX9_strong 52 = .ok (.iload 5, 2) := by decide +kernel
theorem dX9_strong_54 : decode cX9_strong 54 = .ok (.iload_n 3, 1) := by decide +kernel
theorem dX9_strong_55 : decode cX9_strong 55 = .ok (.if_icmp .eq 32, 3) := by decide +kernel
theorem dX9_strong_58 : decode cX9_strong 58 = .ok (.iinc 4 1, 3) := by decide +kernel
theorem dX9_strong_61 : decode cX9_strong 61 = .ok (.aload_n 0, 1) := by decide +kernel
theorem dX9_strong_62 : decode cX9_strong 62 = .ok (.getfield 13, 3) := by decide +kernel
theorem dX9_strong_65 : decode cX9_strong 65 = .ok (.bipush 26, 2) := by decide +kernel
theorem dX9_strong_67 : decode cX9_strong 67 = .ok (.iload_n 1, 1) := by decide +kernel
theorem dX9_strong_68 : decode cX9_strong 68 = .ok (.iadd, 1) := by decide +kernel
theorem dX9_strong_69 : decode cX9_strong 69 = .ok (.iload 4, 2) := by decide +kernel
theorem dX9_strong_71 : decode cX9_strong 71 = .ok (.iastore, 1) := by decide +kernel
theorem dX9_strong_72 : decode cX9_strong 72 = .ok (.aload_n 0, 1) := by decide +kernel
theorem dX9_strong_73 : decode cX9_strong 73 = .ok (.bipush 60, 2) := by decide +kernel
theorem dX9_strong_75 : decode cX9_strong 75 = .ok (.invokevirtual 149, 3) := by decide +kernel
theorem dX9_strong_78 : decode cX9_strong 78 = .ok (.istore 5, 2) := by decide +kernel
theorem dX9_strong_80 : decode cX9_strong 80 = .ok (.aload_n 0, 1) := by decide +kernel
theorem dX9_strong_81 : decode cX9_strong 81 = .ok (.invokevirtual 152, 3) := by decide +kernel
theorem dX9_strong_84 : decode cX9_strong 84 = .ok (.goto (-32), 3) := by decide +kernel
theorem dX9_strong_87 : decode cX9_strong 87 = .ok (.aload_n 0, 1) := by decide +kernel
theorem dX9_strong_88 : decode cX9_strong 88 = .ok (.getfield 13, 3) := by decide +kernel
theorem dX9_strong_91 : decode cX9_strong 91 = .ok (.bipush 26, 2) := by decide +kernel
theorem dX9_strong_93 : decode cX9_strong 93 = .ok (.iload_n 1, 1) := by decide +kernel
theorem dX9_strong_94 : decode cX9_strong 94 = .ok (.iadd, 1) := by decide +kernel
theorem dX9_strong_95 : decode cX9_strong 95 = .ok (.iload_n 2, 1) := by decide +kernel
theorem dX9_strong_96 : decode cX9_strong 96 = .ok (.iastore, 1) := by decide +kernel
theorem dX9_strong_97 : decode cX9_strong 97 = .ok (.iload 4, 2) := by decide +kernel
theorem dX9_strong_99 : decode cX9_strong 99 = .ok (.ireturn, 1) := by decide +kernel
theorem dX9_who_0 : decode cX9_who 0 = .ok (.iload_n 1, 1) := by decide +kernel
theorem dX9_who_1 : decode cX9_who 1 = .ok (.iconst 0, 1) := by decide +kernel
theorem dX9_who_2 : decode cX9_who 2 = .ok (.iconst 1, 1) := by decide +kernel
theorem dX9_who_3 : decode cX9_who 3 = .ok (.aload_n 0, 1) := by decide +kernel
theorem dX9_who_4 : decode cX9_who 4 = .ok (.getfield 13, 3) := by decide +kernel
theorem dX9_who_7 : decode cX9_who 7 = .ok (.iconst 0, 1) := by decide +kernel
theorem dX9_who_8 : decode cX9_who 8 = .ok (.iaload, 1) := by decide +kernel
theorem dX9_who_9 : decode cX9_who 9 = .ok (.ishl, 1) := by decide +kernel
theorem dX9_who_10 : decode cX9_who 10 = .ok (.iconst 1, 1) := by decide +kernel
theorem dX9_who_11 : decode cX9_who 11 = .ok (.isub, 1) := by decide +kernel
theorem dX9_who_12 : decode cX9_who 12 = .ok (.invokestatic 52, 3) := by decide +kernel
theorem dX9_who_15 : decode cX9_who 15 = .ok (.ifCond .eq 12, 3) := by decide +kernel
theorem dX9_who_18 : decode cX9_who 18 = .ok (.iload_n 2, 1) := by decide +kernel
theorem dX9_who_19 : decode cX9_who 19 = .ok (.iconst 0, 1) := by decide +kernel
theorem dX9_who_20 : decode cX9_who 20 = .ok (.iconst 1, 1) := by decide +kernel
theorem dX9_who_21 : decode cX9_who 21 = .ok (.invokestatic 52, 3) := by decide +kernel
theorem dX9_who_24 : decode cX9_who 24 = .ok (.ifCond .ne 5, 3) := by decide +kernel
theorem dX9_who_27 : decode cX9_who 27 = .ok (.iconst (-1), 1) := by decide +kernel
theorem dX9_who_28 : decode cX9_who 28 = .ok (.ireturn, 1) := by decide +kernel
theorem dX9_who_29 : decode cX9_who 29 = .ok (.aload_n 0, 1) := by decide +kernel
theorem dX9_who_30 : decode cX9_who 30 = .ok (.invokevirtual 158, 3) := by decide +kernel
theorem dX9_who_33 : decode cX9_who 33 = .ok (.istore_n 3, 1) := by decide +kernel
theorem dX9_who_34 : decode cX9_who 34 = .ok (.aload_n 0, 1) := by decide +kernel
theorem dX9_who_35 : decode cX9_who 35 = .ok (.getfield 22, 3) := by decide +kernel
theorem dX9_who_38 : decode cX9_who 38 = .ok (.iconst 1, 1) := by decide +kernel
theorem dX9_who_39 : decode cX9_who 39 = .ok (.iaload, 1) := by decide +kernel
theorem dX9_who_40 : decode cX9_who 40 = .ok (.istore 4, 2) := by decide +kernel
theorem dX9_who_42 : decode cX9_who 42 = .ok (.iconst 0, 1) := by decide +kernel
theorem dX9_who_43 : decode cX9_who 43 = .ok (.istore 5, 2) := by decide +kernel
theorem dX9_who_45 : decode cX9_who 45 = .ok (.bipush (-4), 2) := by decide +kernel
theorem dX9_who_47 : decode cX9_who 47 = .ok (.istore 6, 2) := by decide +kernel
theorem dX9_who_49 : decode cX9_who 49 = .ok (.iconst 0, 1) := by decide +kernel
theorem dX9_who_50 : decode cX9_who 50 = .ok (.istore 7, 2) := by decide +kernel
theorem dX9_who_52 : decode cX9_who 52 = .ok (.iload 7, 2) := by decide +kernel
theorem dX9_who_54 : decode cX9_who 54 = .ok (.iconst 1, 1) := by decide +kernel
theorem dX9_who_55 : decode cX9_who 55 = .ok (.aload_n 0, 1) := by decide +kernel
theorem dX9_who_56 : decode cX9_who 56 = .ok (.getfield 13, 3) := by decide +kernel
theorem dX9_who_59 : decode cX9_who 59 = .ok (.iconst 1, 1) := by decide +kernel
theorem dX9_who_60 : decode cX9_who 60 = .ok (.iaload, 1) := by decide +kernel
theorem dX9_who_61 : decode cX9_who 61 = .ok (.ishl, 1) := by decide +kernel
theorem dX9_who_62 : decode cX9_who 62 = .ok (.if_icmp .ge 75, 3) := by decide +kernel
theorem dX9_who_65 : decode cX9_who 65 = .ok (.aload_n 0, 1) := by decide +kernel
theorem dX9_who_66 : decode cX9_who 66 = .ok (.getfield 22, 3) := by decide +kernel
theorem dX9_who_69 : decode cX9_who 69 = .ok (.iconst 1, 1) := by decide +kernel
theorem dX9_who_70 : decode cX9_who 70 = .ok (.iload 7, 2) := by decide +kernel
theorem dX9_who_72 : decode cX9_who 72 = .ok (.iastore, 1) := by decide +kernel
theorem dX9_who_73 : decode cX9_who 73 = .ok (.iload 7, 2) := by decide +kernel
theorem dX9_who_75 : decode cX9_who 75 = .ok (.iload_n 3, 1) := by decide +kernel
theorem dX9_who_76 : decode cX9_who 76 = .ok (.iconst (-1), 1) := by decide +kernel
theorem dX9_who_77 : decode cX9_who 77 = .ok (.ixor, 1) := by decide +kernel
theorem dX9_who_78 : decode cX9_who 78 = .ok (.iand, 1) := by decide +kernel
theorem dX9_who_79 : decode cX9_who 79 = .ok (.ifCond .ne 15, 3) := by decide +kernel
theorem dX9_who_82 : decode cX9_who 82 = .ok (.aload_n 0, 1) := by decide +kernel
theorem dX9_who_83 : decode cX9_who 83 = .ok (.invokevirtual 125, 3) := by decide +kernel
theorem dX9_who_86 : decode cX9_who 86 = .ok (.iload_n 1, 1) := by decide +kernel
theorem dX9_who_87 : decode cX9_who 87 = .ok (.if_icmp .ne 7, 3) := by decide +kernel
theorem dX9_who_90 : decode cX9_who 90 = .ok (.iconst 1, 1) := by decide +kernel
theorem dX9_who_91 : decode cX9_who 91 = .ok (.goto 4, 3) := by decide +kernel
theorem dX9_who_94 : decode cX9_who 94 = .ok (.iconst 0, 1) := by decide +kernel
theorem dX9_who_95 : decode cX9_who 95 = .ok (.istore 8, 2) := by decide +kernel
theorem dX9_who_97 : decode cX9_who 97 = .ok (.iload 8, 2) := by decide +kernel
theorem dX9_who_99 : decode cX9_who 99 = .ok (.ifCond .eq 13, 3) := by decide +kernel
theorem dX9_who_102 : decode cX9_who 102 = .ok (.iload 5, 2) := by decide +kernel
theorem dX9_who_104 : decode cX9_who 104 = .ok (.ifCond .ne 8, 3) := by decide +kernel
theorem dX9_who_107 : decode cX9_who 107 = .ok (.iload 7, 2) := by decide +kernel
theorem dX9_who_109 : decode cX9_who 109 = .ok (.goto 5, 3) := by decide +kernel
theorem dX9_who_112 : decode cX9_who 112 = .ok (.iload 6, 2) := by decide +kernel
theorem dX9_who_114 : decode cX9_who 114 = .ok (.istore 6, 2) := by decide +kernel
theorem dX9_who_116 : decode cX9_who 116 = .ok (.iload 5, 2) := by decide +kernel
theorem dX9_who_118 : decode cX9_who 118 = .ok (.iload 8, 2) := by decide +kernel
theorem dX9_who_120 : decode cX9_who 120 = .ok (.ifCond .eq 7, 3) := by decide +kernel
theorem dX9_who_123 : decode cX9_who 123 = .ok (.iconst 1, 1) := by decide +kernel
theorem dX9_who_124 : decode cX9_who 124 = .ok (.goto 4, 3) := by decide +kernel
theorem dX9_who_127 : decode cX9_who 127 = .ok (.iconst 0, 1) := by decide +kernel
theorem dX9_who_128 : decode cX9_who 128 = .ok (.iadd, 1) := by decide +kernel
theorem dX9_who_129 : decode cX9_who 129 = .ok (.istore 5, 2) := by decide +kernel
theorem dX9_who_131 : decode cX9_who 131 = .ok (.iinc 7 1, 3) := by decide +kernel
theorem dX9_who_134 : decode cX9_who 134 = .ok (.goto (-82), 3) := by decide +kernel
theorem dX9_who_137 : decode cX9_who 137 = .ok (.aload_n 0, 1) := by decide +kernel
theorem dX9_who_138 : decode cX9_who 138 = .ok (.getfield 22, 3) := by decide +kernel
theorem dX9_who_141 : decode cX9_who 141 = .ok (.iconst 1, 1) := by decide +kernel
theorem dX9_who_142 : decode cX9_who 142 = .ok (.iload 4, 2) := by decide +kernel
theorem dX9_who_144 : decode cX9_who 144 = .ok (.iastore, 1) := by decide +kernel
theorem dX9_who_145 : decode cX9_who 145 = .ok (.iload_n 2, 1) := by decide +kernel
theorem dX9_who_146 : decode cX9_who 146 = .ok (.ifCond .ne 8, 3) := by decide +kernel
theorem dX9_who_149 : decode cX9_who 149 = .ok (.iload 5, 2) := by decide +kernel
theorem dX9_who_151 : decode cX9_who 151 = .ok (.goto 5, 3) := by decide +kernel
theorem dX9_who_154 : decode cX9_who 154 = .ok (.iload 6, 2) := by decide +kernel
theorem dX9_who_156 : decode cX9_who 156 = .ok (.ireturn, 1) := by decide +kernel
theorem dX9_knees_0 : decode cX9_knees 0 = .ok (.aload_n 0, 1) := by decide +kernel
theorem dX9_knees_1 : decode cX9_knees 1 = .ok (.iload_n 1, 1) := by decide +kernel
theorem dX9_knees_2 : decode cX9_knees 2 = .ok (.invokevirtual 119, 3) := by decide +kernel
theorem dX9_knees_5 : decode cX9_knees 5 = .ok (.ifCond .eq 13, 3) := by decide +kernel
theorem dX9_knees_8 : decode cX9_knees 8 = .ok (.iload_n 2, 1) := by decide +kernel
theorem dX9_knees_9 : decode cX9_knees 9 = .ok (.iconst 1, 1) := by decide +kernel
theorem dX9_knees_10 : decode cX9_knees 10 = .ok (.bipush 40, 2) := by decide +kernel
theorem dX9_knees_12 : decode cX9_knees 12 = .ok (.invokestatic 52, 3) := by decide +kernel
theorem dX9_knees_15 : decode cX9_knees 15 = .ok (.ifCond .ne 5, 3) := by decide +kernel
theorem dX9_knees_18 : decode cX9_knees 18 = .ok (.iconst (-1), 1) := by decide +kernel
theorem dX9_knees_19 : decode cX9_knees 19 = .ok (.ireturn, 1) := by decide +kernel
theorem dX9_knees_20 : decode cX9_knees 20 = .ok (.aload_n 0, 1) := by decide +kernel
theorem dX9_knees_21 : decode cX9_knees 21 = .ok (.getfield 22, 3) := by decide +kernel
theorem dX9_knees_24 : decode cX9_knees 24 = .ok (.iconst 1, 1) := by decide +kernel
theorem dX9_knees_25 : decode cX9_knees 25 = .ok (.iaload, 1) := by decide +kernel
theorem dX9_knees_26 : decode cX9_knees 26 = .ok (.iload_n 1, 1) := by decide +kernel
theorem dX9_knees_27 : decode cX9_knees 27 = .ok (.invokestatic 94, 3) := by decide +kernel
theorem dX9_knees_30 : decode cX9_knees 30 = .ok (.ifCond .ne 6, 3) := by decide +kernel
theorem dX9_knees_33 : decode cX9_knees 33 = .ok (.bipush (-2), 2) := by decide +kernel
theorem dX9_knees_35 : decode cX9_knees 35 = .ok (.ireturn, 1) := by decide +kernel
theorem dX9_knees_36 : decode cX9_knees 36 = .ok (.aload_n 0, 1) := by decide +kernel
theorem dX9_knees_37 : decode cX9_knees 37 = .ok (.invokevirtual 146, 3) := by decide +kernel
theorem dX9_knees_40 : decode cX9_knees 40 = .ok (.aload_n 0, 1) := by decide +kernel
theorem dX9_knees_41 : decode cX9_knees 41 = .ok (.getfield 13, 3) := by decide +kernel
theorem dX9_knees_44 : decode cX9_knees 44 = .ok (.bipush 32, 2) := by decide +kernel
theorem dX9_knees_46 : decode cX9_knees 46 = .ok (.iload_n 1, 1) := by decide +kernel
theorem dX9_knees_47 : decode cX9_knees 47 = .ok (.iadd, 1) := by decide +kernel
theorem dX9_knees_48 : decode cX9_knees 48 = .ok (.iaload, 1) := by decide +kernel
theorem dX9_knees_49 : decode cX9_knees 49 = .ok (.istore_n 3, 1) := by decide +kernel
theorem dX9_knees_50 : decode cX9_knees 50 = .ok (.iconst 0, 1) := by decide +kernel
theorem dX9_knees_51 : decode cX9_knees 51 = .ok (.istore 4, 2) := by decide +kernel
theorem dX9_knees_53 : decode cX9_knees 53 = .ok (.iconst 1, 1) := by decide +kernel
theorem dX9_knees_54 : decode cX9_knees 54 = .ok (.istore 5, 2) := by decide +kernel
theorem dX9_knees_56 : decode cX9_knees 56 = .ok (.iload 5, 2) := by decide +kernel
theorem dX9_knees_58 : decode cX9_knees 58 = .ok (.bipush 31, 2) := by decide +kernel
theorem dX9_knees_60 : decode cX9_knees 60 = .ok (.if_icmp .ge 104, 3) := by decide +kernel
theorem dX9_knees_63 : decode cX9_knees 63 = .ok (.aload_n 0, 1) := by decide +kernel
theorem dX9_knees_64 : decode cX9_knees 64 = .ok (.getfield 13, 3) := by decide +kernel
theorem dX9_knees_67 : decode cX9_knees 67 = .ok (.bipush 32, 2) := by decide +kernel
theorem dX9_knees_69 : decode cX9_knees 69 = .ok (.iload_n 1, 1) := by decide +kernel
theorem dX9_knees_70 : decode cX9_knees 70 = .ok (.iadd, 1) := by decide +kernel
theorem dX9_knees_71 : decode cX9_knees 71 = .ok (.iload 5, 2) := by decide +kernel
theorem dX9_knees_73 : decode cX9_knees 73 = .ok (.iastore, 1) := by decide +kernel
theorem dX9_knees_74 : decode cX9_knees 74 = .ok (.iconst 0, 1) := by decide +kernel
theorem dX9_knees_75 : decode cX9_knees 75 = .ok (.istore 6, 2) := by decide +kernel
theorem dX9_knees_77 : decode cX9_knees 77 = .ok (.iload 6, 2) := by decide +kernel
theorem dX9_knees_79 : decode cX9_knees 79 = .ok (.iload_n 2, 1) := by decide +kernel
theorem dX9_knees_80 : decode cX9_knees 80 = .ok (.if_icmp .ge 26, 3) := by decide +kernel
theorem dX9_knees_83 : decode cX9_knees 83 = .ok (.aload_n 0, 1) := by decide +kernel
theorem dX9_knees_84 : decode cX9_knees 84 = .ok (.getfield 22, 3) := by decide +kernel
theorem dX9_knees_87 : decode cX9_knees 87 = .ok (.iconst 1, 1) := by decide +kernel
theorem dX9_knees_88 : decode cX9_knees 88 = .ok (.iaload, 1) := by decide +kernel
theorem dX9_knees_89 : decode cX9_knees 89 = .ok (.iload_n 1, 1) := by decide +kernel
theorem dX9_knees_90 : decode cX9_knees 90 = .ok (.invokestatic 94, 3) := by decide +kernel
theorem dX9_knees_93 : decode cX9_knees 93 = .ok (.ifCond .eq 13, 3) := by decide +kernel
theorem dX9_knees_96 : decode cX9_knees 96 = .ok (.aload_n 0, 1) := by decide +kernel
theorem dX9_knees_97 : decode cX9_knees 97 = .ok (.invokevirtual 134, 3) := by decide +kernel
theorem dX9_knees_100 : decode cX9_knees 100 = .ok (.iinc 6 1, 3) := by decide +kernel
theorem dX9_knees_103 : decode cX9_knees 103 = .ok (.goto (-26), 3) := by decide +kernel
theorem dX9_knees_106 : decode cX9_knees 106 = .ok (.iload 4, 2) := by decide +kernel
theorem dX9_knees_108 : decode cX9_knees 108 = .ok (.iload 6, 2) := by decide +kernel
theorem dX9_knees_110 : decode cX9_knees 110 = .ok (.iload_n 2, 1) := by decide +kernel
theorem dX9_knees_111 : decode cX9_knees 111 = .ok (.if_icmp .ne 39, 3) := by decide +kernel
theorem dX9_knees_114 : decode cX9_knees 114 = .ok (.aload_n 0, 1) := by decide +kernel
theorem dX9_knees_115 : decode cX9_knees 115 = .ok (.getfield 22, 3) := by decide +kernel
theorem dX9_knees_118 : decode cX9_knees 118 = .ok (.iconst 1, 1) := by decide +kernel
theorem dX9_knees_119 : decode cX9_knees 119 = .ok (.iaload, 1) := by decide +kernel
theorem dX9_knees_120 : decode cX9_knees 120 = .ok (.iload_n 1, 1) := by decide +kernel
theorem dX9_knees_121 : decode cX9_knees 121 = .ok (.invokestatic 94, 3) := by decide +kernel
theorem dX9_knees_124 : decode cX9_knees 124 = .ok (.ifCond .ne 26, 3) := by decide +kernel
theorem dX9_knees_127 : decode cX9_knees 127 = .ok (.aload_n 0, 1) := by decide +kernel
theorem dX9_knees_128 : decode cX9_knees 128 = .ok (.aload_n 0, 1) := by decide +kernel
theorem dX9_knees_129 : decode cX9_knees 129 = .ok (.getfield 22, 3) := by decide +kernel
theorem dX9_knees_132 : decode cX9_knees 132 = .ok (.bipush 9, 2) := by decide +kernel
theorem dX9_knees_134 : decode cX9_knees 134 = .ok (.iload_n 1, 1) := by decide +kernel
theorem dX9_knees_135 : decode cX9_knees 135 = .ok (.iadd, 1) := by decide +kernel
theorem dX9_knees_136 : decode cX9_knees 136 = .ok (.iaload, 1) := by decide +kernel
theorem dX9_knees_137 : decode cX9_knees 137 = .ok (.invokevirtual 98, 3) := by decide +kernel
theorem dX9_knees_140 : decode cX9_knees 140 = .ok (.ifCond .ne 10, 3) := by decide +kernel
theorem dX9_knees_143 : decode cX9_knees 143 = .ok (.iconst 1, 1) := by decide +kernel
theorem dX9_knees_144 : decode cX9_knees 144 = .ok (.iload 5, 2) := by decide +kernel
theorem dX9_knees_146 : decode cX9_knees 146 = .ok (.ishl, 1) := by decide +kernel
theorem dX9_knees_147 : decode cX9_knees 147 = .ok (.goto 4, 3) := by decide +kernel
theorem dX9_knees_150 : decode cX9_knees 150 = .ok (.iconst 0, 1) := by decide +kernel
theorem dX9_knees_151 : decode cX9_knees 151 = .ok (.ior, 1) := by decide +kernel
theorem dX9_knees_152 : decode cX9_knees 152 = .ok (.istore 4, 2) := by decide +kernel
theorem dX9_knees_154 : decode cX9_knees 154 = .ok (.aload_n 0, 1) := by decide +kernel
theorem dX9_knees_155 : decode cX9_knees 155 = .ok (.invokevirtual 152, 3) := by decide +kernel
theorem dX9_knees_158 : decode cX9_knees 158 = .ok (.iinc 5 1, 3) := by decide +kernel
theorem dX9_knees_161 : decode cX9_knees 161 = .ok (.goto (-105), 3) := by decide +kernel
theorem dX9_knees_164 : decode cX9_knees 164 = .ok (.aload_n 0, 1) := by decide +kernel
theorem dX9_knees_165 : decode cX9_knees 165 = .ok (.getfield 13, 3) := by decide +kernel
theorem dX9_knees_168 : decode cX9_knees 168 = .ok (.bipush 32, 2) := by decide +kernel
theorem dX9_knees_170 : decode cX9_knees 170 = .ok (.iload_n 1, 1) := by decide +kernel
theorem dX9_knees_171 : decode cX9_knees 171 = .ok (.iadd, 1) := by decide +kernel
theorem dX9_knees_172 : decode cX9_knees 172 = .ok (.iload_n 3, 1) := by decide +kernel
theorem dX9_knees_173 : decode cX9_knees 173 = .ok (.iastore, 1) := by decide +kernel
theorem dX9_knees_174 : decode cX9_knees 174 = .ok (.iload 4, 2) := by decide +kernel
theorem dX9_knees_176 : decode cX9_knees 176 = .ok (.ireturn, 1) := by decide +kernel
theorem dX9_shirkers_0 : decode cX9_shirkers 0 = .ok (.iload_n 1, 1) := by decide +kernel
theorem dX9_shirkers_1 : decode cX9_shirkers 1 = .ok (.iconst 0, 1) := by decide +kernel
theorem dX9_shirkers_2 : decode cX9_shirkers 2 = .ok (.bipush 10, 2) := by decide +kernel
theorem dX9_shirkers_4 : decode cX9_shirkers 4 = .ok (.invokestatic 52, 3) := by decide +kernel
theorem dX9_shirkers_7 : decode cX9_shirkers 7 = .ok (.ifCond .eq 12, 3) := by decide +kernel
theorem dX9_shirkers_10 : decode cX9_shirkers 10 = .ok (.iload_n 2, 1) := by decide +kernel
theorem dX9_shirkers_11 : decode cX9_shirkers 11 = .ok (.iconst 0, 1) := by decide +kernel
theorem dX9_shirkers_12 : decode cX9_shirkers 12 = .ok (.iconst 1, 1) := by decide +kernel
theorem dX9_shirkers_13 : decode cX9_shirkers 13 = .ok (.invokestatic 52, 3) := by decide +kernel
theorem dX9_shirkers_16 : decode cX9_shirkers 16 = .ok (.ifCond .ne 5, 3) := by decide +kernel
theorem dX9_shirkers_19 : decode cX9_shirkers 19 = .ok (.iconst (-1), 1) := by decide +kernel
theorem dX9_shirkers_20 : decode cX9_shirkers 20 = .ok (.ireturn, 1) := by decide +kernel
theorem dX9_shirkers_21 : decode cX9_shirkers 21 = .ok (.aload_n 0, 1) := by decide +kernel
theorem dX9_shirkers_22 : decode cX9_shirkers 22 = .ok (.invokevirtual 146, 3) := by decide +kernel
theorem dX9_shirkers_25 : decode cX9_shirkers 25 = .ok (.aload_n 0, 1) := by decide +kernel
theorem dX9_shirkers_26 : decode cX9_shirkers 26 = .ok (.getfield 22, 3) := by decide +kernel
theorem dX9_shirkers_29 : decode cX9_shirkers 29 = .ok (.iconst 1, 1) := by decide +kernel
theorem dX9_shirkers_30 : decode cX9_shirkers 30 = .ok (.iaload, 1) := by decide +kernel
theorem dX9_shirkers_31 : decode cX9_shirkers 31 = .ok (.istore_n 3, 1) := by decide +kernel
theorem dX9_shirkers_32 : decode cX9_shirkers 32 = .ok (.iconst 0, 1) := by decide +kernel
theorem dX9_shirkers_33 : decode cX9_shirkers 33 = .ok (.istore 4, 2) := by decide +kernel
theorem dX9_shirkers_35 : decode cX9_shirkers 35 = .ok (.iconst 1, 1) := by decide +kernel
theorem dX9_shirkers_36 : decode cX9_shirkers 36 = .ok (.istore 5, 2) := by decide +kernel
theorem dX9_shirkers_38 : decode cX9_shirkers 38 = .ok (.iconst 0, 1) := by decide +kernel
theorem dX9_shirkers_39 : decode cX9_shirkers 39 = .ok (.istore 6, 2) := by decide +kernel
theorem dX9_shirkers_41 : decode cX9_shirkers 41 = .ok (.iload 6, 2) := by decide +kernel
theorem dX9_shirkers_43 : decode cX9_shirkers 43 = .ok (.iload_n 3, 1) := by decide +kernel
theorem dX9_shirkers_44 : decode cX9_shirkers 44 = .ok (.invokestatic 161, 3) := by decide +kernel
theorem dX9_shirkers_47 : decode cX9_shirkers 47 = .ok (.if_icmp .ge 16, 3) := by decide +kernel
theorem dX9_shirkers_50 : decode cX9_shirkers 50 = .ok (.iload 5, 2) := by decide +kernel
theorem dX9_shirkers_52 : decode cX9_shirkers 52 = .ok (.bipush 10, 2) := by decide +kernel
theorem dX9_shirkers_54 : decode cX9_shirkers 54 = .ok (.imul, 1) := by decide +kernel
theorem dX9_shirkers_55 : decode cX9_shirkers 55 = .ok (.istore 5, 2) := by decide +kernel
theorem dX9_shirkers_57 : decode cX9_shirkers 57 = .ok (.iinc 6 1, 3) := by decide +kernel
theorem dX9_shirkers_60 : decode cX9_shirkers 60 = .ok (.goto (-19), 3) := by decide +kernel
theorem dX9_shirkers_63 : decode cX9_shirkers 63 = .ok (.iconst 0, 1) := by decide +kernel
theorem dX9_shirkers_64 : decode cX9_shirkers 64 = .ok (.istore 6, 2) := by decide +kernel
theorem dX9_shirkers_66 : decode cX9_shirkers 66 = .ok (.iload 6, 2) := by decide +kernel
theorem dX9_shirkers_68 : decode cX9_shirkers 68 = .ok (.iconst 1, 1) := by decide +kernel
theorem dX9_shirkers_69 : decode cX9_shirkers 69 = .ok (.aload_n 0, 1) := by decide +kernel
theorem dX9_shirkers_70 : decode cX9_shirkers 70 = .ok (.getfield 13, 3) := by decide +kernel
theorem dX9_shirkers_73 : decode cX9_shirkers 73 = .ok (.iconst 1, 1) := by decide +kernel
theorem dX9_shirkers_74 : decode cX9_shirkers 74 = .ok (.iaload, 1) := by decide +kernel
theorem dX9_shirkers_75 : decode cX9_shirkers 75 = .ok (.ishl, 1) := by decide +kernel
theorem dX9_shirkers_76 : decode cX9_shirkers 76 = .ok (.if_icmp .ge 183, 3) := by decide +kernel
theorem dX9_shirkers_79 : decode cX9_shirkers 79 = .ok (.iload 6, 2) := by decide +kernel
theorem dX9_shirkers_81 : decode cX9_shirkers 81 = .ok (.iload_n 3, 1) := by decide +kernel
theorem dX9_shirkers_82 : decode cX9_shirkers 82 = .ok (.iconst (-1), 1) := by decide +kernel
theorem dX9_shirkers_83 : decode cX9_shirkers 83 = .ok (.ixor, 1) := by decide +kernel
theorem dX9_shirkers_84 : decode cX9_shirkers 84 = .ok (.iand, 1) := by decide +kernel
theorem dX9_shirkers_85 : decode cX9_shirkers 85 = .ok (.ifCond .ne 168, 3) := by decide +kernel
theorem dX9_shirkers_88 : decode cX9_shirkers 88 = .ok (.iconst 1, 1) := by decide +kernel
theorem dX9_shirkers_89 : decode cX9_shirkers 89 = .ok (.istore 7, 2) := by decide +kernel
theorem dX9_shirkers_91 : decode cX9_shirkers 91 = .ok (.iconst 0, 1) := by decide +kernel
theorem dX9_shirkers_92 : decode cX9_shirkers 92 = .ok (.istore 8, 2) := by decide +kernel
theorem dX9_shirkers_94 : decode cX9_shirkers 94 = .ok (.iload 8, 2) := by decide +kernel
theorem dX9_shirkers_96 : decode cX9_shirkers 96 = .ok (.aload_n 0, 1) := by decide +kernel
theorem dX9_shirkers_97 : decode cX9_shirkers 97 = .ok (.getfield 13, 3) := by decide +kernel
theorem dX9_shirkers_100 : decode cX9_shirkers 100 = .ok (.iconst 1, 1) := by decide +kernel
theorem dX9_shirkers_101 : decode cX9_shirkers 101 = .ok (.iaload, 1) := by decide +kernel
theorem dX9_shirkers_102 : decode cX9_shirkers 102 = .ok (.if_icmp .ge 45, 3) := by decide +kernel
theorem dX9_shirkers_105 : decode cX9_shirkers 105 = .ok (.iload 7, 2) := by decide +kernel
theorem dX9_shirkers_107 : decode cX9_shirkers 107 = .ok (.iload_n 3, 1) := by decide +kernel
theorem dX9_shirkers_108 : decode cX9_shirkers 108 = .ok (.iload 8, 2) := by decide +kernel
theorem dX9_shirkers_110 : decode cX9_shirkers 110 = .ok (.invokestatic 94, 3) := by decide +kernel
theorem dX9_shirkers_113 : decode cX9_shirkers 113 = .ok (.ifCond .ne 7, 3) := by decide +kernel
theorem dX9_shirkers_116 : decode cX9_shirkers 116 = .ok (.iconst 1, 1) := by decide +kernel
theorem dX9_shirkers_117 : decode cX9_shirkers 117 = .ok (.goto 21, 3) := by decide +kernel
theorem dX9_shirkers_120 : decode cX9_shirkers 120 = .ok (.iload 6, 2) := by decide +kernel
theorem dX9_shirkers_122 : decode cX9_shirkers 122 = .ok (.iload 8, 2) := by decide +kernel
theorem dX9_shirkers_124 : decode cX9_shirkers 124 = .ok (.invokestatic 94, 3) := by decide +kernel
theorem dX9_shirkers_127 : decode cX9_shirkers 127 = .ok (.ifCond .eq 7, 3) := by decide +kernel
theorem dX9_shirkers_130 : decode cX9_shirkers 130 = .ok (.iload_n 1, 1) := by decide +kernel
theorem dX9_shirkers_131 : decode cX9_shirkers 131 = .ok (.goto 7, 3) := by decide +kernel
theorem dX9_shirkers_134 : decode cX9_shirkers 134 = .ok (.bipush 10, 2) := by decide +kernel
theorem dX9_shirkers_136 : decode cX9_shirkers 136 = .ok (.iload_n 1, 1) := by decide +kernel
theorem dX9_shirkers_137 : decode cX9_shirkers 137 = .ok (.isub, 1) := by decide +kernel
theorem dX9_shirkers_138 : decode cX9_shirkers 138 = .ok (.imul, 1) := by decide +kernel
theorem dX9_shirkers_139 : decode cX9_shirkers 139 = .ok (.istore 7, 2) := by decide +kernel
theorem dX9_shirkers_141 : decode cX9_shirkers 141 = .ok (.iinc 8 1, 3) := by decide +kernel
theorem dX9_shirkers_144 : decode cX9_shirkers 144 = .ok (.goto (-50), 3) := by decide +kernel
theorem dX9_shirkers_147 : decode cX9_shirkers 147 = .ok (.aload_n 0, 1) := by decide +kernel
theorem dX9_shirkers_148 : decode cX9_shirkers 148 = .ok (.getfield 22, 3) := by decide +kernel
theorem dX9_shirkers_151 : decode cX9_shirkers 151 = .ok (.iconst 1, 1) := by decide +kernel
theorem dX9_shirkers_152 : decode cX9_shirkers 152 = .ok (.dup2, 1) := by decide +kernel
theorem dX9_shirkers_153 : decode cX9_shirkers 153 = .ok (.iaload, 1) := by decide +kernel
theorem dX9_shirkers_154 : decode cX9_shirkers 154 = .ok (.iload 6, 2) := by decide +kernel
theorem dX9_shirkers_156 : decode cX9_shirkers 156 = .ok (.iconst (-1), 1) := by decide +kernel
theorem dX9_shirkers_157 : decode cX9_shirkers 157 = .ok (.ixor, 1) := by decide +kernel
theorem dX9_shirkers_158 : decode cX9_shirkers 158 = .ok (.iand, 1) := by decide +kernel
theorem dX9_shirkers_159 : decode cX9_shirkers 159 = .ok (.iastore, 1) := by decide +kernel
theorem dX9_shirkers_160 : decode cX9_shirkers 160 = .ok (.aload_n 0, 1) := by decide +kernel
theorem dX9_shirkers_161 : decode cX9_shirkers 161 = .ok (.invokevirtual 134, 3) := by decide +kernel
theorem dX9_shirkers_164 : decode cX9_shirkers 164 = .ok (.iconst 0, 1) := by decide +kernel
theorem dX9_shirkers_165 : decode cX9_shirkers 165 = .ok (.istore 8, 2) := by decide +kernel
theorem dX9_shirkers_167 : decode cX9_shirkers 167 = .ok (.iload 8, 2) := by decide +kernel
theorem dX9_shirkers_169 : decode cX9_shirkers 169 = .ok (.aload_n 0, 1) := by decide +kernel
theorem dX9_shirkers_170 : decode cX9_shirkers 170 = .ok (.getfield 13, 3) := by decide +kernel
theorem dX9_shirkers_173 : decode cX9_shirkers 173 = .ok (.iconst 1, 1) := by decide +kernel
theorem dX9_shirkers_174 : decode cX9_shirkers 174 = .ok (.iaload, 1) := by decide +kernel
theorem dX9_shirkers_175 : decode cX9_shirkers 175 = .ok (.if_icmp .ge 25, 3) := by decide +kernel
theorem dX9_shirkers_178 : decode cX9_shirkers 178 = .ok (.iload 6, 2) := by decide +kernel
theorem dX9_shirkers_180 : decode cX9_shirkers 180 = .ok (.iload 8, 2) := by decide +kernel
theorem dX9_shirkers_182 : decode cX9_shirkers 182 = .ok (.invokestatic 94, 3) := by decide +kernel
theorem dX9_shirkers_185 : decode cX9_shirkers 185 = .ok (.ifCond .eq 9, 3) := by decide +kernel
theorem dX9_shirkers_188 : decode cX9_shirkers 188 = .ok (.aload_n 0, 1) := by decide +kernel
theorem dX9_shirkers_189 : decode cX9_shirkers 189 = .ok (.iload 8, 2) := by decide +kernel
theorem dX9_shirkers_191 : decode cX9_shirkers 191 = .ok (.invokevirtual 168, 3) := by decide +kernel
theorem dX9_shirkers_194 : decode cX9_shirkers 194 = .ok (.iinc 8 1, 3) := by decide +kernel
theorem dX9_shirkers_197 : decode cX9_shirkers 197 = .ok (.goto (-30), 3) := by decide +kernel
theorem dX9_shirkers_200 : decode cX9_shirkers 200 = .ok (.aload_n 0, 1) := by decide +kernel
theorem dX9_shirkers_201 : decode cX9_shirkers 201 = .ok (.getfield 22, 3) := by decide +kernel
theorem dX9_shirkers_204 : decode cX9_shirkers 204 = .ok (.iconst 2, 1) := by decide +kernel
theorem dX9_shirkers_205 : decode cX9_shirkers 205 = .ok (.iaload, 1) := by decide +kernel
theorem dX9_shirkers_206 : decode cX9_shirkers 206 = .ok (.aload_n 0, 1) := by decide +kernel
theorem dX9_shirkers_207 : decode cX9_shirkers 207 = .ok (.getfield 31, 3) := by decide +kernel
theorem dX9_shirkers_210 : decode cX9_shirkers 210 = .ok (.iconst 2, 1) := by decide +kernel
theorem dX9_shirkers_211 : decode cX9_shirkers 211 = .ok (.iaload, 1) := by decide +kernel
theorem dX9_shirkers_212 : decode cX9_shirkers 212 = .ok (.if_icmp .ne 18, 3) := by decide +kernel
theorem dX9_shirkers_215 : decode cX9_shirkers 215 = .ok (.aload_n 0, 1) := by decide +kernel
theorem dX9_shirkers_216 : decode cX9_shirkers 216 = .ok (.bipush 11, 2) := by decide +kernel
theorem dX9_shirkers_218 : decode cX9_shirkers 218 = .ok (.invokevirtual 149, 3) := by decide +kernel
theorem dX9_shirkers_221 : decode cX9_shirkers 221 = .ok (.bipush 11, 2) := by decide +kernel
theorem dX9_shirkers_223 : decode cX9_shirkers 223 = .ok (.if_icmp .le 7, 3) := by decide +kernel
theorem dX9_shirkers_226 : decode cX9_shirkers 226 = .ok (.iconst 1, 1) := by decide +kernel
theorem dX9_shirkers_227 : decode cX9_shirkers 227 = .ok (.goto 4, 3) := by decide +kernel
theorem dX9_shirkers_230 : decode cX9_shirkers 230 = .ok (.iconst 0, 1) := by decide +kernel
theorem dX9_shirkers_231 : decode cX9_shirkers 231 = .ok (.istore 8, 2) := by decide +kernel
theorem dX9_shirkers_233 : decode cX9_shirkers 233 = .ok (.iload 4, 2) := by decide +kernel
theorem dX9_shirkers_235 : decode cX9_shirkers 235 = .ok (.iload 8, 2) := by decide +kernel
theorem dX9_shirkers_237 : decode cX9_shirkers 237 = .ok (.ifCond .eq 8, 3) := by decide +kernel
theorem dX9_shirkers_240 : decode cX9_shirkers 240 = .ok (.iload 7, 2) := by decide +kernel
theorem dX9_shirkers_242 : decode cX9_shirkers 242 = .ok (.goto 4, 3) := by decide +kernel
theorem dX9_shirkers_245 : decode cX9_shirkers 245 = .ok (.iconst 0, 1) := by decide +kernel
theorem dX9_shirkers_246 : decode cX9_shirkers 246 = .ok (.iadd, 1) := by decide +kernel
theorem dX9_shirkers_247 : decode cX9_shirkers 247 = .ok (.istore 4, 2) := by decide +kernel
theorem dX9_shirkers_249 : decode cX9_shirkers 249 = .ok (.aload_n 0, 1) := by decide +kernel
theorem dX9_shirkers_250 : decode cX9_shirkers 250 = .ok (.invokevirtual 152, 3) := by decide +kernel
theorem dX9_shirkers_253 : decode cX9_shirkers 253 = .ok (.iinc 6 1, 3) := by decide +kernel
theorem dX9_shirkers_256 : decode cX9_shirkers 256 = .ok (.goto (-190), 3) := by decide +kernel
theorem dX9_shirkers_259 : decode cX9_shirkers 259 = .ok (.iload 4, 2) := by decide +kernel
theorem dX9_shirkers_261 : decode cX9_shirkers 261 = .ok (.istore 6, 2) := by decide +kernel
theorem dX9_shirkers_263 : decode cX9_shirkers 263 = .ok (.iload 5, 2) := by decide +kernel
theorem dX9_shirkers_265 : decode cX9_shirkers 265 = .ok (.istore 7, 2) := by decide +kernel
theorem dX9_shirkers_267 : decode cX9_shirkers 267 = .ok (.iload 7, 2) := by decide +kernel
theorem dX9_shirkers_269 : decode cX9_shirkers 269 = .ok (.ifCond .le 21, 3) := by decide +kernel
theorem dX9_shirkers_272 : decode cX9_shirkers 272 = .ok (.iload 6, 2) := by decide +kernel
theorem dX9_shirkers_274 : decode cX9_shirkers 274 = .ok (.iload 7, 2) := by decide +kernel
theorem dX9_shirkers_276 : decode cX9_shirkers 276 = .ok (.irem, 1) := by decide +kernel
theorem dX9_shirkers_277 : decode cX9_shirkers 277 = .ok (.istore 8, 2) := by decide +kernel
theorem dX9_shirkers_279 : decode cX9_shirkers 279 = .ok (.iload 7, 2) := by decide +kernel
theorem dX9_shirkers_281 : decode cX9_shirkers 281 = .ok (.istore 6, 2) := by decide +kernel
theorem dX9_shirkers_283 : decode cX9_shirkers 283 = .ok (.iload 8, 2) := by decide +kernel
theorem dX9_shirkers_285 : decode cX9_shirkers 285 = .ok (.istore 7, 2) := by decide +kernel
theorem dX9_shirkers_287 : decode cX9_shirkers 287 = .ok (.goto (-20), 3) := by decide +kernel
theorem dX9_shirkers_290 : decode cX9_shirkers 290 = .ok (.iload_n 2, 1) := by decide +kernel
theorem dX9_shirkers_291 : decode cX9_shirkers 291 = .ok (.ifCond .ne 11, 3) := by decide +kernel
theorem dX9_shirkers_294 : decode cX9_shirkers 294 = .ok (.iload 4, 2) := by decide +kernel
theorem dX9_shirkers_296 : decode cX9_shirkers 296 = .ok (.iload 6, 2) := by decide +kernel
theorem dX9_shirkers_298 : decode cX9_shirkers 298 = .ok (.idiv, 1) := by decide +kernel
theorem dX9_shirkers_299 : decode cX9_shirkers 299 = .ok (.goto 8, 3) := by decide +kernel
theorem dX9_shirkers_302 : decode cX9_shirkers 302 = .ok (.iload 5, 2) := by decide +kernel
theorem dX9_shirkers_304 : decode cX9_shirkers 304 = .ok (.iload 6, 2) := by decide +kernel
theorem dX9_shirkers_306 : decode cX9_shirkers 306 = .ok (.idiv, 1) := by decide +kernel
theorem dX9_shirkers_307 : decode cX9_shirkers 307 = .ok (.ireturn, 1) := by decide +kernel
theorem dX9_turn_0 : decode cX9_turn 0 = .ok (.iload_n 1, 1) := by decide +kernel
theorem dX9_turn_1 : decode cX9_turn 1 = .ok (.bipush 8, 2) := by decide +kernel
theorem dX9_turn_3 : decode cX9_turn 3 = .ok (.idiv, 1) := by decide +kernel
theorem dX9_turn_4 : decode cX9_turn 4 = .ok (.aload_n 0, 1) := by decide +kernel
theorem dX9_turn_5 : decode cX9_turn 5 = .ok (.getfield 13, 3) := by decide +kernel
theorem dX9_turn_8 : decode cX9_turn 8 = .ok (.iconst 1, 1) := by decide +kernel
theorem dX9_turn_9 : decode cX9_turn 9 = .ok (.iaload, 1) := by decide +kernel
theorem dX9_turn_10 : decode cX9_turn 10 = .ok (.irem, 1) := by decide +kernel
theorem dX9_turn_11 : decode cX9_turn 11 = .ok (.istore_n 2, 1) := by decide +kernel
theorem dX9_turn_12 : decode cX9_turn 12 = .ok (.iload_n 1, 1) := by decide +kernel
theorem dX9_turn_13 : decode cX9_turn 13 = .ok (.bipush 8, 2) := by decide +kernel
theorem dX9_turn_15 : decode cX9_turn 15 = .ok (.irem, 1) := by decide +kernel
theorem dX9_turn_16 : decode cX9_turn 16 = .ok (.istore_n 3, 1) := by decide +kernel
theorem dX9_turn_17 : decode cX9_turn 17 = .ok (.iload_n 3, 1) := by decide +kernel
theorem dX9_turn_18 : decode cX9_turn 18 = .ok (.ifCond .ne 28, 3) := by decide +kernel
theorem dX9_turn_21 : decode cX9_turn 21 = .ok (.aload_n 0, 1) := by decide +kernel
theorem dX9_turn_22 : decode cX9_turn 22 = .ok (.iload_n 2, 1) := by decide +kernel
theorem dX9_turn_23 : decode cX9_turn 23 = .ok (.invokevirtual 140, 3) := by decide +kernel
theorem dX9_turn_26 : decode cX9_turn 26 = .ok (.ifCond .eq 20, 3) := by decide +kernel
theorem dX9_turn_29 : decode cX9_turn 29 = .ok (.aload_n 0, 1) := by decide +kernel
theorem dX9_turn_30 : decode cX9_turn 30 = .ok (.getfield 22, 3) := by decide +kernel
theorem dX9_turn_33 : decode cX9_turn 33 = .ok (.iconst 1, 1) := by decide +kernel
theorem dX9_turn_34 : decode cX9_turn 34 = .ok (.dup2, 1) := by decide +kernel
theorem dX9_turn_35 : decode cX9_turn 35 = .ok (.iaload, 1) := by decide +kernel
theorem dX9_turn_36 : decode cX9_turn 36 = .ok (.iconst 1, 1) := by decide +kernel
theorem dX9_turn_37 : decode cX9_turn 37 = .ok (.iload_n 2, 1) := by decide +kernel
theorem dX9_turn_38 : decode cX9_turn 38 = .ok (.ishl, 1) := by decide +kernel
theorem dX9_turn_39 : decode cX9_turn 39 = .ok (.iconst (-1), 1) := by decide +kernel
theorem dX9_turn_40 : decode cX9_turn 40 = .ok (.ixor, 1) := by decide +kernel
theorem dX9_turn_41 : decode cX9_turn 41 = .ok (.iand, 1) := by decide +kernel
theorem dX9_turn_42 : decode cX9_turn 42 = .ok (.iastore, 1) := by decide +kernel
theorem dX9_turn_43 : decode cX9_turn 43 = .ok (.goto 73, 3) := by decide +kernel
theorem dX9_turn_46 : decode cX9_turn 46 = .ok (.iload_n 3, 1) := by decide +kernel
theorem dX9_turn_47 : decode cX9_turn 47 = .ok (.iconst 1, 1) := by decide +kernel
theorem dX9_turn_48 : decode cX9_turn 48 = .ok (.iconst 2, 1) := by decide +kernel
theorem dX9_turn_49 : decode cX9_turn 49 = .ok (.invokestatic 52, 3) := by decide +kernel
theorem dX9_turn_52 : decode cX9_turn 52 = .ok (.ifCond .eq 26, 3) := by decide +kernel
theorem dX9_turn_55 : decode cX9_turn 55 = .ok (.aload_n 0, 1) := by decide +kernel
theorem dX9_turn_56 : decode cX9_turn 56 = .ok (.iload_n 2, 1) := by decide +kernel
theorem dX9_turn_57 : decode cX9_turn 57 = .ok (.invokevirtual 143, 3) := by decide +kernel
theorem dX9_turn_60 : decode cX9_turn 60 = .ok (.ifCond .eq 18, 3) := by decide +kernel
theorem dX9_turn_63 : decode cX9_turn 63 = .ok (.aload_n 0, 1) := by decide +kernel
theorem dX9_turn_64 : decode cX9_turn 64 = .ok (.getfield 22, 3) := by decide +kernel
theorem dX9_turn_67 : decode cX9_turn 67 = .ok (.iconst 1, 1) := by decide +kernel
theorem dX9_turn_68 : decode cX9_turn 68 = .ok (.dup2, 1) := by decide +kernel
theorem dX9_turn_69 : decode cX9_turn 69 = .ok (.iaload, 1) := by decide +kernel
theorem dX9_turn_70 : decode cX9_turn 70 = .ok (.iconst 1, 1) := by decide +kernel
theorem dX9_turn_71 : decode cX9_turn 71 = .ok (.iload_n 2, 1) := by decide +kernel
theorem dX9_turn_72 : decode cX9_turn 72 = .ok (.ishl, 1) := by decide +kernel
theorem dX9_turn_73 : decode cX9_turn 73 = .ok (.ior, 1) := by decide +kernel
theorem dX9_turn_74 : decode cX9_turn 74 = .ok (.iastore, 1) := by decide +kernel
theorem dX9_turn_75 : decode cX9_turn 75 = .ok (.goto 41, 3) := by decide +kernel
theorem dX9_turn_78 : decode cX9_turn 78 = .ok (.iload_n 3, 1) := by decide +kernel
theorem dX9_turn_79 : decode cX9_turn 79 = .ok (.iconst 3, 1) := by decide +kernel
theorem dX9_turn_80 : decode cX9_turn 80 = .ok (.if_icmp .ne 36, 3) := by decide +kernel
theorem dX9_turn_83 : decode cX9_turn 83 = .ok (.aload_n 0, 1) := by decide +kernel
theorem dX9_turn_84 : decode cX9_turn 84 = .ok (.getfield 22, 3) := by decide +kernel
theorem dX9_turn_87 : decode cX9_turn 87 = .ok (.iconst 1, 1) := by decide +kernel
theorem dX9_turn_88 : decode cX9_turn 88 = .ok (.iaload, 1) := by decide +kernel
theorem dX9_turn_89 : decode cX9_turn 89 = .ok (.iload_n 2, 1) := by decide +kernel
theorem dX9_turn_90 : decode cX9_turn 90 = .ok (.invokestatic 94, 3) := by decide +kernel
theorem dX9_turn_93 : decode cX9_turn 93 = .ok (.ifCond .ne 23, 3) := by decide +kernel
theorem dX9_turn_96 : decode cX9_turn 96 = .ok (.aload_n 0, 1) := by decide +kernel
theorem dX9_turn_97 : decode cX9_turn 97 = .ok (.getfield 22, 3) := by decide +kernel
theorem dX9_turn_100 : decode cX9_turn 100 = .ok (.bipush 9, 2) := by decide +kernel
theorem dX9_turn_102 : decode cX9_turn 102 = .ok (.iload_n 2, 1) := by decide +kernel
theorem dX9_turn_103 : decode cX9_turn 103 = .ok (.iadd, 1) := by decide +kernel
theorem dX9_turn_104 : decode cX9_turn 104 = .ok (.iload_n 1, 1) := by decide +kernel
theorem dX9_turn_105 : decode cX9_turn 105 = .ok (.bipush 64, 2) := by decide +kernel
theorem dX9_turn_107 : decode cX9_turn 107 = .ok (.idiv, 1) := by decide +kernel
theorem dX9_turn_108 : decode cX9_turn 108 = .ok (.aload_n 0, 1) := by decide +kernel
theorem dX9_turn_109 : decode cX9_turn 109 = .ok (.getfield 13, 3) := by decide +kernel
theorem dX9_turn_112 : decode cX9_turn 112 = .ok (.iconst 0, 1) := by decide +kernel
theorem dX9_turn_113 : decode cX9_turn 113 = .ok (.iaload, 1) := by decide +kernel
theorem dX9_turn_114 : decode cX9_turn 114 = .ok (.irem, 1) := by decide +kernel
theorem dX9_turn_115 : decode cX9_turn 115 = .ok (.iastore, 1) := by decide +kernel
theorem dX9_turn_116 : decode cX9_turn 116 = .ok (.return_, 1) := by decide +kernel
theorem dX9_night_0 : decode cX9_night 0 = .ok (.iload_n 1, 1) := by decide +kernel
theorem dX9_night_1 : decode cX9_night 1 = .ok (.iconst 0, 1) := by decide +kernel
theorem dX9_night_2 : decode cX9_night 2 = .ok (.sipush 9999, 3) := by decide +kernel
theorem dX9_night_5 : decode cX9_night 5 = .ok (.invokestatic 52, 3) := by decide +kernel
theorem dX9_night_8 : decode cX9_night 8 = .ok (.ifCond .eq 22, 3) := by decide +kernel
theorem dX9_night_11 : decode cX9_night 11 = .ok (.iload_n 2, 1) := by decide +kernel
theorem dX9_night_12 : decode cX9_night 12 = .ok (.iconst 1, 1) := by decide +kernel
theorem dX9_night_13 : decode cX9_night 13 = .ok (.bipush 60, 2) := by decide +kernel
theorem dX9_night_15 : decode cX9_night 15 = .ok (.invokestatic 52, 3) := by decide +kernel
theorem dX9_night_18 : decode cX9_night 18 = .ok (.ifCond .eq 12, 3) := by decide +kernel
theorem dX9_night_21 : decode cX9_night 21 = .ok (.iload_n 3, 1) := by decide +kernel
theorem dX9_night_22 : decode cX9_night 22 = .ok (.iconst 0, 1) := by decide +kernel
theorem dX9_night_23 : decode cX9_night 23 = .ok (.iconst 1, 1) := by decide +kernel
theorem dX9_night_24 : decode cX9_night 24 = .ok (.invokestatic 52, 3) := by decide +kernel
theorem dX9_night_27 : decode cX9_night 27 = .ok (.ifCond .ne 5, 3) := by decide +kernel
theorem dX9_night_30 : decode cX9_night 30 = .ok (.iconst (-1), 1) := by decide +kernel
theorem dX9_night_31 : decode cX9_night 31 = .ok (.ireturn, 1) := by decide +kernel
theorem dX9_night_32 : decode cX9_night 32 = .ok (.aload_n 0, 1) := by decide +kernel
theorem dX9_night_33 : decode cX9_night 33 = .ok (.invokevirtual 146, 3) := by decide +kernel
theorem dX9_night_36 : decode cX9_night 36 = .ok (.iconst 0, 1) := by decide +kernel
theorem dX9_night_37 : decode cX9_night 37 = .ok (.istore 4, 2) := by decide +kernel
theorem dX9_night_39 : decode cX9_night 39 = .ok (.iload 4, 2) := by decide +kernel
theorem dX9_night_41 : decode cX9_night 41 = .ok (.iload_n 2, 1) := by decide +kernel
theorem dX9_night_42 : decode cX9_night 42 = .ok (.if_icmp .ge 54, 3) := by decide +kernel
theorem dX9_night_45 : decode cX9_night 45 = .ok (.ldc2_w 175, 3) := by decide +kernel
theorem dX9_night_48 : decode cX9_night 48 = .ok (.iload_n 1, 1) := by decide +kernel
theorem dX9_night_49 : decode cX9_night 49 = .ok (.i2l, 1) := by decide +kernel
theorem dX9_night_50 : decode cX9_night 50 = .ok (.lmul, 1) := by decide +kernel
theorem dX9_night_51 : decode cX9_night 51 = .ok (.ldc2_w 177, 3) := by decide +kernel
theorem dX9_night_54 : decode cX9_night 54 = .ok (.iload 4, 2) := by decide +kernel
theorem dX9_night_56 : decode cX9_night 56 = .ok (.i2l, 1) := by decide +kernel
theorem dX9_night_57 : decode cX9_night 57 = .ok (.lmul, 1) := by decide +kernel
theorem dX9_night_58 : decode cX9_night 58 = .ok (.ladd, 1) := by decide +kernel
theorem dX9_night_59 : decode cX9_night 59 = .ok (.lconst 1, 1) := by decide +kernel
theorem dX9_night_60 : decode cX9_night 60 = .ok (.ladd, 1) := by decide +kernel
theorem dX9_night_61 : decode cX9_night 61 = .ok (.lstore 5, 2) := by decide +kernel
theorem dX9_night_63 : decode cX9_night 63 = .ok (.aload_n 0, 1) := by decide +kernel
theorem dX9_night_64 : decode cX9_night 64 = .ok (.getfield 13, 3) := by decide +kernel
theorem dX9_night_67 : decode cX9_night 67 = .ok (.iconst 1, 1) := by decide +kernel
theorem dX9_night_68 : decode cX9_night 68 = .ok (.iaload, 1) := by decide +kernel
theorem dX9_night_69 : decode cX9_night 69 = .ok (.ifCond .le 17, 3) := by decide +kernel
theorem dX9_night_72 : decode cX9_night 72 = .ok (.aload_n 0, 1) := by decide +kernel
theorem dX9_night_73 : decode cX9_night 73 = .ok (.lload 5, 2) := by decide +kernel
theorem dX9_night_75 : decode cX9_night 75 = .ok (.lload 5, 2) := by decide +kernel
theorem dX9_night_77 : decode cX9_night 77 = .ok (.lmul, 1) := by decide +kernel
theorem dX9_night_78 : decode cX9_night 78 = .ok (.ldc2_w 179, 3) := by decide +kernel
theorem dX9_night_81 : decode cX9_night 81 = .ok (.lrem, 1) := by decide +kernel
theorem dX9_night_82 : decode cX9_night 82 = .ok (.l2i, 1) := by decide +kernel
theorem dX9_night_83 : decode cX9_night 83 = .ok (.invokevirtual 181, 3) := by decide +kernel
theorem dX9_night_86 : decode cX9_night 86 = .ok (.aload_n 0, 1) := by decide +kernel
theorem dX9_night_87 : decode cX9_night 87 = .ok (.invokevirtual 134, 3) := by decide +kernel
theorem dX9_night_90 : decode cX9_night 90 = .ok (.iinc 4 1, 3) := by decide +kernel
theorem dX9_night_93 : decode cX9_night 93 = .ok (.goto (-54), 3) := by decide +kernel
theorem dX9_night_96 : decode cX9_night 96 = .ok (.iload_n 3, 1) := by decide +kernel
theorem dX9_night_97 : decode cX9_night 97 = .ok (.ifCond .ne 12, 3) := by decide +kernel
theorem dX9_night_100 : decode cX9_night 100 = .ok (.aload_n 0, 1) := by decide +kernel
theorem dX9_night_101 : decode cX9_night 101 = .ok (.getfield 22, 3) := by decide +kernel
theorem dX9_night_104 : decode cX9_night 104 = .ok (.iconst 2, 1) := by decide +kernel
theorem dX9_night_105 : decode cX9_night 105 = .ok (.iaload, 1) := by decide +kernel
theorem dX9_night_106 : decode cX9_night 106 = .ok (.goto 9, 3) := by decide +kernel
theorem dX9_night_109 : decode cX9_night 109 = .ok (.aload_n 0, 1) := by decide +kernel
theorem dX9_night_110 : decode cX9_night 110 = .ok (.getfield 22, 3) := by decide +kernel
theorem dX9_night_113 : decode cX9_night 113 = .ok (.iconst 1, 1) := by decide +kernel
theorem dX9_night_114 : decode cX9_night 114 = .ok (.iaload, 1) := by decide +kernel
theorem dX9_night_115 : decode cX9_night 115 = .ok (.invokestatic 161, 3) := by decide +kernel
theorem dX9_night_118 : decode cX9_night 118 = .ok (.istore 4, 2) := by decide +kernel
theorem dX9_night_120 : decode cX9_night 120 = .ok (.aload_n 0, 1) := by decide +kernel
theorem dX9_night_121 : decode cX9_night 121 = .ok (.invokevirtual 152, 3) := by decide +kernel
theorem dX9_night_124 : decode cX9_night 124 = .ok (.iload 4, 2) := by decide +kernel
theorem dX9_night_126 : decode cX9_night 126 = .ok (.ireturn, 1) := by decide +kernel
theorem dX9_keep_0 : decode cX9_keep 0 = .ok (.aload_n 0, 1) := by decide +kernel
theorem dX9_keep_1 : decode cX9_keep 1 = .ok (.getfield 91, 3) := by decide +kernel
theorem dX9_keep_4 : decode cX9_keep 4 = .ok (.iconst 2, 1) := by decide +kernel
theorem dX9_keep_5 : decode cX9_keep 5 = .ok (.if_icmp .ne 6, 3) := by decide +kernel
theorem dX9_keep_8 : decode cX9_keep 8 = .ok (.bipush (-3), 2) := by decide +kernel
theorem dX9_keep_10 : decode cX9_keep 10 = .ok (.ireturn, 1) := by decide +kernel
theorem dX9_keep_11 : decode cX9_keep 11 = .ok (.iconst 0, 1) := by decide +kernel
theorem dX9_keep_12 : decode cX9_keep 12 = .ok (.istore_n 1, 1) := by decide +kernel
theorem dX9_keep_13 : decode cX9_keep 13 = .ok (.iload_n 1, 1) := by decide +kernel
theorem dX9_keep_14 : decode cX9_keep 14 = .ok (.bipush 23, 2) := by decide +kernel
theorem dX9_keep_16 : decode cX9_keep 16 = .ok (.if_icmp .ge 29, 3) := by decide +kernel
theorem dX9_keep_19 : decode cX9_keep 19 = .ok (.aload_n 0, 1) := by decide +kernel
theorem dX9_keep_20 : decode cX9_keep 20 = .ok (.getfield 28, 3) := by decide +kernel
theorem dX9_keep_23 : decode cX9_keep 23 = .ok (.bipush 23, 2) := by decide +kernel
theorem dX9_keep_25 : decode cX9_keep 25 = .ok (.aload_n 0, 1) := by decide +kernel
theorem dX9_keep_26 : decode cX9_keep 26 = .ok (.getfield 91, 3) := by decide +kernel
theorem dX9_keep_29 : decode cX9_keep 29 = .ok (.imul, 1) := by decide +kernel
theorem dX9_keep_30 : decode cX9_keep 30 = .ok (.iload_n 1, 1) := by decide +kernel
theorem dX9_keep_31 : decode cX9_keep 31 = .ok (.iadd, 1) := by decide +kernel
theorem dX9_keep_32 : decode cX9_keep 32 = .ok (.aload_n 0, 1) := by decide +kernel
theorem dX9_keep_33 : decode cX9_keep 33 = .ok (.getfield 22, 3) := by decide +kernel
theorem dX9_keep_36 : decode cX9_keep 36 = .ok (.iload_n 1, 1) := by decide +kernel
theorem dX9_keep_37 : decode cX9_keep 37 = .ok (.iaload, 1) := by decide +kernel
theorem dX9_keep_38 : decode cX9_keep 38 = .ok (.iastore, 1) := by decide +kernel
theorem dX9_keep_39 : decode cX9_keep 39 = .ok (.iinc 1 1, 3) := by decide +kernel
theorem dX9_keep_42 : decode cX9_keep 42 = .ok (.goto (-29), 3) := by decide +kernel
theorem dX9_keep_45 : decode cX9_keep 45 = .ok (.aload_n 0, 1) := by decide +kernel
theorem dX9_keep_46 : decode cX9_keep 46 = .ok (.dup, 1) := by decide +kernel
theorem dX9_keep_47 : decode cX9_keep 47 = .ok (.getfield 91, 3) := by decide +kernel
theorem dX9_keep_50 : decode cX9_keep 50 = .ok (.iconst 1, 1) := by decide +kernel
theorem dX9_keep_51 : decode cX9_keep 51 = .ok (.iadd, 1) := by decide +kernel
theorem dX9_keep_52 : decode cX9_keep 52 = .ok (.putfield 91, 3) := by decide +kernel
theorem dX9_keep_55 : decode cX9_keep 55 = .ok (.aload_n 0, 1) := by decide +kernel
theorem dX9_keep_56 : decode cX9_keep 56 = .ok (.getfield 91, 3) := by decide +kernel
theorem dX9_keep_59 : decode cX9_keep 59 = .ok (.ireturn, 1) := by decide +kernel
theorem dX9_back_0 : decode cX9_back 0 = .ok (.aload_n 0, 1) := by decide +kernel
theorem dX9_back_1 : decode cX9_back 1 = .ok (.getfield 91, 3) := by decide +kernel
theorem dX9_back_4 : decode cX9_back 4 = .ok (.ifCond .ne 6, 3) := by decide +kernel
theorem dX9_back_7 : decode cX9_back 7 = .ok (.bipush (-2), 2) := by decide +kernel
theorem dX9_back_9 : decode cX9_back 9 = .ok (.ireturn, 1) := by decide +kernel
theorem dX9_back_10 : decode cX9_back 10 = .ok (.aload_n 0, 1) := by decide +kernel
theorem dX9_back_11 : decode cX9_back 11 = .ok (.dup, 1) := by decide +kernel
theorem dX9_back_12 : decode cX9_back 12 = .ok (.getfield 91, 3) := by decide +kernel
theorem dX9_back_15 : decode cX9_back 15 = .ok (.iconst 1, 1) := by decide +kernel
theorem dX9_back_16 : decode cX9_back 16 = .ok (.isub, 1) := by decide +kernel
theorem dX9_back_17 : decode cX9_back 17 = .ok (.putfield 91, 3) := by decide +kernel
theorem dX9_back_20 : decode cX9_back 20 = .ok (.iconst 0, 1) := by decide +kernel
theorem dX9_back_21 : decode cX9_back 21 = .ok (.istore_n 1, 1) := by decide +kernel
theorem dX9_back_22 : decode cX9_back 22 = .ok (.iload_n 1, 1) := by decide +kernel
theorem dX9_back_23 : decode cX9_back 23 = .ok (.bipush 23, 2) := by decide +kernel
theorem dX9_back_25 : decode cX9_back 25 = .ok (.if_icmp .ge 29, 3) := by decide +kernel
theorem dX9_back_28 : decode cX9_back 28 = .ok (.aload_n 0, 1) := by decide +kernel
theorem dX9_back_29 : decode cX9_back 29 = .ok (.getfield 22, 3) := by decide +kernel
theorem dX9_back_32 : decode cX9_back 32 = .ok (.iload_n 1, 1) := by decide +kernel
theorem dX9_back_33 : decode cX9_back 33 = .ok (.aload_n 0, 1) := by decide +kernel
theorem dX9_back_34 : decode cX9_back 34 = .ok (.getfield 28, 3) := by decide +kernel
theorem dX9_back_37 : decode cX9_back 37 = .ok (.bipush 23, 2) := by decide +kernel
theorem dX9_back_39 : decode cX9_back 39 = .ok (.aload_n 0, 1) := by decide +kernel
theorem dX9_back_40 : decode cX9_back 40 = .ok (.getfield 91, 3) := by decide +kernel
theorem dX9_back_43 : decode cX9_back 43 = .ok (.imul, 1) := by decide +kernel
theorem dX9_back_44 : decode cX9_back 44 = .ok (.iload_n 1, 1) := by decide +kernel
theorem dX9_back_45 : decode cX9_back 45 = .ok (.iadd, 1) := by decide +kernel
theorem dX9_back_46 : decode cX9_back 46 = .ok (.iaload, 1) := by decide +kernel
theorem dX9_back_47 : decode cX9_back 47 = .ok (.iastore, 1) := by decide +kernel
theorem dX9_back_48 : decode cX9_back 48 = .ok (.iinc 1 1, 3) := by decide +kernel
theorem dX9_back_51 : decode cX9_back 51 = .ok (.goto (-29), 3) := by decide +kernel
theorem dX9_back_54 : decode cX9_back 54 = .ok (.aload_n 0, 1) := by decide +kernel
theorem dX9_back_55 : decode cX9_back 55 = .ok (.iconst 0, 1) := by decide +kernel
theorem dX9_back_56 : decode cX9_back 56 = .ok (.putfield 88, 3) := by decide +kernel
theorem dX9_back_59 : decode cX9_back 59 = .ok (.aload_n 0, 1) := by decide +kernel
theorem dX9_back_60 : decode cX9_back 60 = .ok (.getfield 91, 3) := by decide +kernel
theorem dX9_back_63 : decode cX9_back 63 = .ok (.ireturn, 1) := by decide +kernel
theorem dX9_count_0 : decode cX9_count 0 = .ok (.iload_n 1, 1) := by decide +kernel
theorem dX9_count_1 : decode cX9_count 1 = .ok (.tableswitch 115 0 8 #[51, 58, 65, 72, 82, 90, 100, 105, 110], 51) := by decide +kernel
theorem dX9_count_52 : decode cX9_count 52 = .ok (.aload_n 0, 1) := by decide +kernel
theorem dX9_count_53 : decode cX9_count 53 = .ok (.getfield 13, 3) := by decide +kernel
theorem dX9_count_56 : decode cX9_count 56 = .ok (.iconst 0, 1) := by decide +kernel
theorem dX9_count_57 : decode cX9_count 57 = .ok (.iaload, 1) := by decide +kernel
theorem dX9_count_58 : decode cX9_count 58 = .ok (.ireturn, 1) := by decide +kernel
theorem dX9_count_59 : decode cX9_count 59 = .ok (.aload_n 0, 1) := by decide +kernel
theorem dX9_count_60 : decode cX9_count 60 = .ok (.getfield 13, 3) := by decide +kernel
theorem dX9_count_63 : decode cX9_count 63 = .ok (.iconst 1, 1) := by decide +kernel
theorem dX9_count_64 : decode cX9_count 64 = .ok (.iaload, 1) := by decide +kernel
theorem dX9_count_65 : decode cX9_count 65 = .ok (.ireturn, 1) := by decide +kernel
theorem dX9_count_66 : decode cX9_count 66 = .ok (.aload_n 0, 1) := by decide +kernel
theorem dX9_count_67 : decode cX9_count 67 = .ok (.getfield 22, 3) := by decide +kernel
theorem dX9_count_70 : decode cX9_count 70 = .ok (.iconst 0, 1) := by decide +kernel
theorem dX9_count_71 : decode cX9_count 71 = .ok (.iaload, 1) := by decide +kernel
theorem dX9_count_72 : decode cX9_count 72 = .ok (.ireturn, 1) := by decide +kernel
theorem dX9_count_73 : decode cX9_count 73 = .ok (.aload_n 0, 1) := by decide +kernel
theorem dX9_count_74 : decode cX9_count 74 = .ok (.getfield 22, 3) := by decide +kernel
theorem dX9_count_77 : decode cX9_count 77 = .ok (.iconst 1, 1) := by decide +kernel
theorem dX9_count_78 : decode cX9_count 78 = .ok (.iaload, 1) := by decide +kernel
theorem dX9_count_79 : decode cX9_count 79 = .ok (.invokestatic 161, 3) := by decide +kernel
theorem dX9_count_82 : decode cX9_count 82 = .ok (.ireturn, 1) := by decide +kernel
theorem dX9_count_83 : decode cX9_count 83 = .ok (.aload_n 0, 1) := by decide +kernel
theorem dX9_count_84 : decode cX9_count 84 = .ok (.invokevirtual 125, 3) := by decide +kernel
theorem dX9_count_87 : decode cX9_count 87 = .ok (.invokestatic 161, 3) := by decide +kernel
theorem dX9_count_90 : decode cX9_count 90 = .ok (.ireturn, 1) := by decide +kernel
theorem dX9_count_91 : decode cX9_count 91 = .ok (.aload_n 0, 1) := by decide +kernel
theorem dX9_count_92 : decode cX9_count 92 = .ok (.getfield 22, 3) := by decide +kernel
theorem dX9_count_95 : decode cX9_count 95 = .ok (.iconst 2, 1) := by decide +kernel
theorem dX9_count_96 : decode cX9_count 96 = .ok (.iaload, 1) := by decide +kernel
theorem dX9_count_97 : decode cX9_count 97 = .ok (.invokestatic 161, 3) := by decide +kernel
theorem dX9_count_100 : decode cX9_count 100 = .ok (.ireturn, 1) := by decide +kernel
theorem dX9_count_101 : decode cX9_count 101 = .ok (.aload_n 0, 1) := by decide +kernel
theorem dX9_count_102 : decode cX9_count 102 = .ok (.getfield 88, 3) := by decide +kernel
theorem dX9_count_105 : decode cX9_count 105 = .ok (.ireturn, 1) := by decide +kernel
theorem dX9_count_106 : decode cX9_count 106 = .ok (.aload_n 0, 1) := by decide +kernel
theorem dX9_count_107 : decode cX9_count 107 = .ok (.getfield 91, 3) := by decide +kernel
theorem dX9_count_110 : decode cX9_count 110 = .ok (.ireturn, 1) := by decide +kernel
theorem dX9_count_111 : decode cX9_count 111 = .ok (.aload_n 0, 1) := by decide +kernel
theorem dX9_count_112 : decode cX9_count 112 = .ok (.getfield 56, 3) := by decide +kernel
theorem dX9_count_115 : decode cX9_count 115 = .ok (.ireturn, 1) := by decide +kernel
theorem dX9_count_116 : decode cX9_count 116 = .ok (.iconst (-1), 1) := by decide +kernel
theorem dX9_count_117 : decode cX9_count 117 = .ok (.ireturn, 1) := by decide +kernel
