theorem dX9_copied_146 : decode cX9_copied 146 = .ok (.ireturn, 1) := by decide +kernel
theorem dX9_wrongDays_0 : decode cX9_wrongDays 0 = .ok (.iload_n 0, 1) := by decide +kernel
theorem dX9_wrongDays_1 : decode cX9_wrongDays 1 = .ok (.ifCond .lt 7, 3) := by decide +kernel
theorem dX9_wrongDays_4 : decode cX9_wrongDays 4 = .ok (.iload_n 1, 1) := by decide +kernel
theorem dX9_wrongDays_5 : decode cX9_wrongDays 5 = .ok (.ifCond .ge 6, 3) := by decide +kernel
theorem dX9_wrongDays_8 : decode cX9_wrongDays 8 = .ok (.bipush (-4), 2) := by decide +kernel
theorem dX9_wrongDays_10 : decode cX9_wrongDays 10 = .ok (.ireturn, 1) := by decide +kernel
theorem dX9_wrongDays_11 : decode cX9_wrongDays 11 = .ok (.iload_n 0, 1) := by decide +kernel
theorem dX9_wrongDays_12 : decode cX9_wrongDays 12 = .ok (.ldc 194, 2) := by decide +kernel
theorem dX9_wrongDays_14 : decode cX9_wrongDays 14 = .ok (.if_icmp .gt 9, 3) := by decide +kernel
theorem dX9_wrongDays_17 : decode cX9_wrongDays 17 = .ok (.iload_n 1, 1) := by decide +kernel
theorem dX9_wrongDays_18 : decode cX9_wrongDays 18 = .ok (.ldc 194, 2) := by decide +kernel
theorem dX9_wrongDays_20 : decode cX9_wrongDays 20 = .ok (.if_icmp .le 8, 3) := by decide +kernel
theorem dX9_wrongDays_23 : decode cX9_wrongDays 23 = .ok (.bipush (-6), 2) := by decide +kernel
theorem dX9_wrongDays_25 : decode cX9_wrongDays 25 = .ok (.goto 4, 3) := by decide +kernel
theorem dX9_wrongDays_28 : decode cX9_wrongDays 28 = .ok (.iconst 0, 1) := by decide +kernel
theorem dX9_wrongDays_29 : decode cX9_wrongDays 29 = .ok (.ireturn, 1) := by decide +kernel
theorem dX9_sight_0 : decode cX9_sight 0 = .ok (.iload_n 1, 1) := by decide +kernel
theorem dX9_sight_1 : decode cX9_sight 1 = .ok (.bipush 12, 2) := by decide +kernel
theorem dX9_sight_3 : decode cX9_sight 3 = .ok (.invokestatic 126, 3) := by decide +kernel
theorem dX9_sight_6 : decode cX9_sight 6 = .ok (.ifCond .eq 21, 3) := by decide +kernel
theorem dX9_sight_9 : decode cX9_sight 9 = .ok (.iload_n 2, 1) := by decide +kernel
theorem dX9_sight_10 : decode cX9_sight 10 = .ok (.bipush 8, 2) := by decide +kernel
theorem dX9_sight_12 : decode cX9_sight 12 = .ok (.invokestatic 126, 3) := by decide +kernel
theorem dX9_sight_15 : decode cX9_sight 15 = .ok (.ifCond .eq 12, 3) := by decide +kernel
theorem dX9_sight_18 : decode cX9_sight 18 = .ok (.iload_n 3, 1) := by decide +kernel
theorem dX9_sight_19 : decode cX9_sight 19 = .ok (.iload 4, 2) := by decide +kernel
theorem dX9_sight_21 : decode cX9_sight 21 = .ok (.invokestatic 195, 3) := by decide +kernel
theorem dX9_sight_24 : decode cX9_sight 24 = .ok (.goto 4, 3) := by decide +kernel
theorem dX9_sight_27 : decode cX9_sight 27 = .ok (.iconst (-1), 1) := by decide +kernel
theorem dX9_sight_28 : decode cX9_sight 28 = .ok (.istore 5, 2) := by decide +kernel
theorem dX9_sight_30 : decode cX9_sight 30 = .ok (.iload 5, 2) := by decide +kernel
theorem dX9_sight_32 : decode cX9_sight 32 = .ok (.ifCond .ne 16, 3) := by decide +kernel
theorem dX9_sight_35 : decode cX9_sight 35 = .ok (.aload_n 0, 1) := by decide +kernel
theorem dX9_sight_36 : decode cX9_sight 36 = .ok (.getfield 198, 3) := by decide +kernel
theorem dX9_sight_39 : decode cX9_sight 39 = .ok (.bipush 60, 2) := by decide +kernel
theorem dX9_sight_41 : decode cX9_sight 41 = .ok (.if_icmp .ne 7, 3) := by decide +kernel
theorem dX9_sight_44 : decode cX9_sight 44 = .ok (.bipush (-6), 2) := by decide +kernel
theorem dX9_sight_46 : decode cX9_sight 46 = .ok (.istore 5, 2) := by decide +kernel
theorem dX9_sight_48 : decode cX9_sight 48 = .ok (.iload 5, 2) := by decide +kernel
theorem dX9_sight_50 : decode cX9_sight 50 = .ok (.ifCond .eq 10, 3) := by decide +kernel
theorem dX9_sight_53 : decode cX9_sight 53 = .ok (.aload_n 0, 1) := by decide +kernel
theorem dX9_sight_54 : decode cX9_sight 54 = .ok (.iload 5, 2) := by decide +kernel
theorem dX9_sight_56 : decode cX9_sight 56 = .ok (.invokevirtual 130, 3) := by decide +kernel
theorem dX9_sight_59 : decode cX9_sight 59 = .ok (.ireturn, 1) := by decide +kernel
theorem dX9_sight_60 : decode cX9_sight 60 = .ok (.aload_n 0, 1) := by decide +kernel
theorem dX9_sight_61 : decode cX9_sight 61 = .ok (.getfield 59, 3) := by decide +kernel
theorem dX9_sight_64 : decode cX9_sight 64 = .ok (.aload_n 0, 1) := by decide +kernel
theorem dX9_sight_65 : decode cX9_sight 65 = .ok (.getfield 198, 3) := by decide +kernel
theorem dX9_sight_68 : decode cX9_sight 68 = .ok (.iload_n 1, 1) := by decide +kernel
theorem dX9_sight_69 : decode cX9_sight 69 = .ok (.iastore, 1) := by decide +kernel
theorem dX9_sight_70 : decode cX9_sight 70 = .ok (.aload_n 0, 1) := by decide +kernel
theorem dX9_sight_71 : decode cX9_sight 71 = .ok (.getfield 62, 3) := by decide +kernel
theorem dX9_sight_74 : decode cX9_sight 74 = .ok (.aload_n 0, 1) := by decide +kernel
theorem dX9_sight_75 : decode cX9_sight 75 = .ok (.getfield 198, 3) := by decide +kernel
theorem dX9_sight_78 : decode cX9_sight 78 = .ok (.iload_n 2, 1) := by decide +kernel
theorem dX9_sight_79 : decode cX9_sight 79 = .ok (.iastore, 1) := by decide +kernel
theorem dX9_sight_80 : decode cX9_sight 80 = .ok (.aload_n 0, 1) := by decide +kernel
theorem dX9_sight_81 : decode cX9_sight 81 = .ok (.getfield 65, 3) := by decide +kernel
theorem dX9_sight_84 : decode cX9_sight 84 = .ok (.aload_n 0, 1) := by decide +kernel
theorem dX9_sight_85 : decode cX9_sight 85 = .ok (.getfield 198, 3) := by decide +kernel
theorem dX9_sight_88 : decode cX9_sight 88 = .ok (.iload_n 3, 1) := by decide +kernel
theorem dX9_sight_89 : decode cX9_sight 89 = .ok (.iastore, 1) := by decide +kernel
theorem dX9_sight_90 : decode cX9_sight 90 = .ok (.aload_n 0, 1) := by decide +kernel
theorem dX9_sight_91 : decode cX9_sight 91 = .ok (.getfield 68, 3) := by decide +kernel
theorem dX9_sight_94 : decode cX9_sight 94 = .ok (.aload_n 0, 1) := by decide +kernel
theorem dX9_sight_95 : decode cX9_sight 95 = .ok (.getfield 198, 3) := by decide +kernel
theorem dX9_sight_98 : decode cX9_sight 98 = .ok (.iload 4, 2) := by decide +kernel
theorem dX9_sight_100 : decode cX9_sight 100 = .ok (.iastore, 1) := by decide +kernel
theorem dX9_sight_101 : decode cX9_sight 101 = .ok (.aload_n 0, 1) := by decide +kernel
theorem dX9_sight_102 : decode cX9_sight 102 = .ok (.getfield 71, 3) := by decide +kernel
theorem dX9_sight_105 : decode cX9_sight 105 = .ok (.aload_n 0, 1) := by decide +kernel
theorem dX9_sight_106 : decode cX9_sight 106 = .ok (.getfield 198, 3) := by decide +kernel
theorem dX9_sight_109 : decode cX9_sight 109 = .ok (.ldc 201, 2) := by decide +kernel
theorem dX9_sight_111 : decode cX9_sight 111 = .ok (.iastore, 1) := by decide +kernel
theorem dX9_sight_112 : decode cX9_sight 112 = .ok (.aload_n 0, 1) := by decide +kernel
theorem dX9_sight_113 : decode cX9_sight 113 = .ok (.dup, 1) := by decide +kernel
theorem dX9_sight_114 : decode cX9_sight 114 = .ok (.getfield 198, 3) := by decide +kernel
theorem dX9_sight_117 : decode cX9_sight 117 = .ok (.iconst 1, 1) := by decide +kernel
theorem dX9_sight_118 : decode cX9_sight 118 = .ok (.iadd, 1) := by decide +kernel
theorem dX9_sight_119 : decode cX9_sight 119 = .ok (.putfield 198, 3) := by decide +kernel
theorem dX9_sight_122 : decode cX9_sight 122 = .ok (.aload_n 0, 1) := by decide +kernel
theorem dX9_sight_123 : decode cX9_sight 123 = .ok (.getfield 198, 3) := by decide +kernel
theorem dX9_sight_126 : decode cX9_sight 126 = .ok (.iconst 1, 1) := by decide +kernel
theorem dX9_sight_127 : decode cX9_sight 127 = .ok (.isub, 1) := by decide +kernel
theorem dX9_sight_128 : decode cX9_sight 128 = .ok (.ireturn, 1) := by decide +kernel
theorem dX9_move_0 : decode cX9_move 0 = .ok (.iload_n 1, 1) := by decide +kernel
theorem dX9_move_1 : decode cX9_move 1 = .ok (.bipush 12, 2) := by decide +kernel
theorem dX9_move_3 : decode cX9_move 3 = .ok (.invokestatic 126, 3) := by decide +kernel
theorem dX9_move_6 : decode cX9_move 6 = .ok (.ifCond .eq 12, 3) := by decide +kernel
theorem dX9_move_9 : decode cX9_move 9 = .ok (.iload_n 2, 1) := by decide +kernel
theorem dX9_move_10 : decode cX9_move 10 = .ok (.bipush 8, 2) := by decide +kernel
theorem dX9_move_12 : decode cX9_move 12 = .ok (.invokestatic 126, 3) := by decide +kernel
theorem dX9_move_15 : decode cX9_move 15 = .ok (.ifCond .ne 7, 3) := by decide +kernel
theorem dX9_move_18 : decode cX9_move 18 = .ok (.iconst (-1), 1) := by decide +kernel
theorem dX9_move_19 : decode cX9_move 19 = .ok (.goto 23, 3) := by decide +kernel
theorem dX9_move_22 : decode cX9_move 22 = .ok (.iload 4, 2) := by decide +kernel
theorem dX9_move_24 : decode cX9_move 24 = .ok (.iconst 5, 1) := by decide +kernel
theorem dX9_move_25 : decode cX9_move 25 = .ok (.invokestatic 126, 3) := by decide +kernel
theorem dX9_move_28 : decode cX9_move 28 = .ok (.ifCond .ne 8, 3) := by decide +kernel
theorem dX9_move_31 : decode cX9_move 31 = .ok (.bipush (-2), 2) := by decide +kernel
theorem dX9_move_33 : decode cX9_move 33 = .ok (.goto 9, 3) := by decide +kernel
theorem dX9_move_36 : decode cX9_move 36 = .ok (.iload_n 3, 1) := by decide +kernel
theorem dX9_move_37 : decode cX9_move 37 = .ok (.iload 5, 2) := by decide +kernel
theorem dX9_move_39 : decode cX9_move 39 = .ok (.invokestatic 195, 3) := by decide +kernel
theorem dX9_move_42 : decode cX9_move 42 = .ok (.istore 6, 2) := by decide +kernel
theorem dX9_move_44 : decode cX9_move 44 = .ok (.iload 6, 2) := by decide +kernel
theorem dX9_move_46 : decode cX9_move 46 = .ok (.ifCond .ne 16, 3) := by decide +kernel
theorem dX9_move_49 : decode cX9_move 49 = .ok (.aload_n 0, 1) := by decide +kernel
theorem dX9_move_50 : decode cX9_move 50 = .ok (.getfield 202, 3) := by decide +kernel
theorem dX9_move_53 : decode cX9_move 53 = .ok (.bipush 60, 2) := by decide +kernel
theorem dX9_move_55 : decode cX9_move 55 = .ok (.if_icmp .ne 7, 3) := by decide +kernel
theorem dX9_move_58 : decode cX9_move 58 = .ok (.bipush (-6), 2) := by decide +kernel
theorem dX9_move_60 : decode cX9_move 60 = .ok (.istore 6, 2) := by decide +kernel
theorem dX9_move_62 : decode cX9_move 62 = .ok (.iload 6, 2) := by decide +kernel
theorem dX9_move_64 : decode cX9_move 64 = .ok (.ifCond .eq 10, 3) := by decide +kernel
theorem dX9_move_67 : decode cX9_move 67 = .ok (.aload_n 0, 1) := by decide +kernel
theorem dX9_move_68 : decode cX9_move 68 = .ok (.iload 6, 2) := by decide +kernel
theorem dX9_move_70 : decode cX9_move 70 = .ok (.invokevirtual 130, 3) := by decide +kernel
theorem dX9_move_73 : decode cX9_move 73 = .ok (.ireturn, 1) := by decide +kernel
theorem dX9_move_74 : decode cX9_move 74 = .ok (.aload_n 0, 1) := by decide +kernel
theorem dX9_move_75 : decode cX9_move 75 = .ok (.getfield 74, 3) := by decide +kernel
theorem dX9_move_78 : decode cX9_move 78 = .ok (.aload_n 0, 1) := by decide +kernel
theorem dX9_move_79 : decode cX9_move 79 = .ok (.getfield 202, 3) := by decide +kernel
theorem dX9_move_82 : decode cX9_move 82 = .ok (.iload_n 1, 1) := by decide +kernel
theorem dX9_move_83 : decode cX9_move 83 = .ok (.iastore, 1) := by decide +kernel
theorem dX9_move_84 : decode cX9_move 84 = .ok (.aload_n 0, 1) := by decide +kernel
theorem dX9_move_85 : decode cX9_move 85 = .ok (.getfield 77, 3) := by decide +kernel
theorem dX9_move_88 : decode cX9_move 88 = .ok (.aload_n 0, 1) := by decide +kernel
theorem dX9_move_89 : decode cX9_move 89 = .ok (.getfield 202, 3) := by decide +kernel
theorem dX9_move_92 : decode cX9_move 92 = .ok (.iload_n 2, 1) := by decide +kernel
theorem dX9_move_93 : decode cX9_move 93 = .ok (.iastore, 1) := by decide +kernel
theorem dX9_move_94 : decode cX9_move 94 = .ok (.aload_n 0, 1) := by decide +kernel
theorem dX9_move_95 : decode cX9_move 95 = .ok (.getfield 80, 3) := by decide +kernel
theorem dX9_move_98 : decode cX9_move 98 = .ok (.aload_n 0, 1) := by decide +kernel
theorem dX9_move_99 : decode cX9_move 99 = .ok (.getfield 202, 3) := by decide +kernel
theorem dX9_move_102 : decode cX9_move 102 = .ok (.iload_n 3, 1) := by decide +kernel
theorem dX9_move_103 : decode cX9_move 103 = .ok (.iastore, 1) := by decide +kernel
theorem dX9_move_104 : decode cX9_move 104 = .ok (.aload_n 0, 1) := by decide +kernel
theorem dX9_move_105 : decode cX9_move 105 = .ok (.getfield 83, 3) := by decide +kernel
theorem dX9_move_108 : decode cX9_move 108 = .ok (.aload_n 0, 1) := by decide +kernel
theorem dX9_move_109 : decode cX9_move 109 = .ok (.getfield 202, 3) := by decide +kernel
theorem dX9_move_112 : decode cX9_move 112 = .ok (.iload 4, 2) := by decide +kernel
theorem dX9_move_114 : decode cX9_move 114 = .ok (.iastore, 1) := by decide +kernel
theorem dX9_move_115 : decode cX9_move 115 = .ok (.aload_n 0, 1) := by decide +kernel
theorem dX9_move_116 : decode cX9_move 116 = .ok (.getfield 86, 3) := by decide +kernel
theorem dX9_move_119 : decode cX9_move 119 = .ok (.aload_n 0, 1) := by decide +kernel
theorem dX9_move_120 : decode cX9_move 120 = .ok (.getfield 202, 3) := by decide +kernel
theorem dX9_move_123 : decode cX9_move 123 = .ok (.iload 5, 2) := by decide +kernel
theorem dX9_move_125 : decode cX9_move 125 = .ok (.iastore, 1) := by decide +kernel
theorem dX9_move_126 : decode cX9_move 126 = .ok (.aload_n 0, 1) := by decide +kernel
theorem dX9_move_127 : decode cX9_move 127 = .ok (.getfield 89, 3) := by decide +kernel
theorem dX9_move_130 : decode cX9_move 130 = .ok (.aload_n 0, 1) := by decide +kernel
theorem dX9_move_131 : decode cX9_move 131 = .ok (.getfield 202, 3) := by decide +kernel
theorem dX9_move_134 : decode cX9_move 134 = .ok (.ldc 201, 2) := by decide +kernel
theorem dX9_move_136 : decode cX9_move 136 = .ok (.iastore, 1) := by decide +kernel
theorem dX9_move_137 : decode cX9_move 137 = .ok (.aload_n 0, 1) := by decide +kernel
theorem dX9_move_138 : decode cX9_move 138 = .ok (.dup, 1) := by decide +kernel
theorem dX9_move_139 : decode cX9_move 139 = .ok (.getfield 202, 3) := by decide +kernel
theorem dX9_move_142 : decode cX9_move 142 = .ok (.iconst 1, 1) := by decide +kernel
theorem dX9_move_143 : decode cX9_move 143 = .ok (.iadd, 1) := by decide +kernel
theorem dX9_move_144 : decode cX9_move 144 = .ok (.putfield 202, 3) := by decide +kernel
theorem dX9_move_147 : decode cX9_move 147 = .ok (.aload_n 0, 1) := by decide +kernel
theorem dX9_move_148 : decode cX9_move 148 = .ok (.getfield 202, 3) := by decide +kernel
theorem dX9_move_151 : decode cX9_move 151 = .ok (.iconst 1, 1) := by decide +kernel
theorem dX9_move_152 : decode cX9_move 152 = .ok (.isub, 1) := by decide +kernel
theorem dX9_move_153 : decode cX9_move 153 = .ok (.ireturn, 1) := by decide +kernel
theorem dX9_withdraw_0 : decode cX9_withdraw 0 = .ok (.iload_n 2, 1) := by decide +kernel
theorem dX9_withdraw_1 : decode cX9_withdraw 1 = .ok (.iload_n 1, 1) := by decide +kernel
theorem dX9_withdraw_2 : decode cX9_withdraw 2 = .ok (.ifCond .eq 10, 3) := by decide +kernel
theorem dX9_withdraw_5 : decode cX9_withdraw 5 = .ok (.aload_n 0, 1) := by decide +kernel
theorem dX9_withdraw_6 : decode cX9_withdraw 6 = .ok (.getfield 198, 3) := by decide +kernel
theorem dX9_withdraw_9 : decode cX9_withdraw 9 = .ok (.goto 7, 3) := by decide +kernel
theorem dX9_withdraw_12 : decode cX9_withdraw 12 = .ok (.aload_n 0, 1) := by decide +kernel
theorem dX9_withdraw_13 : decode cX9_withdraw 13 = .ok (.getfield 202, 3) := by decide +kernel
theorem dX9_withdraw_16 : decode cX9_withdraw 16 = .ok (.invokestatic 126, 3) := by decide +kernel
theorem dX9_withdraw_19 : decode cX9_withdraw 19 = .ok (.ifCond .ne 9, 3) := by decide +kernel
theorem dX9_withdraw_22 : decode cX9_withdraw 22 = .ok (.aload_n 0, 1) := by decide +kernel
theorem dX9_withdraw_23 : decode cX9_withdraw 23 = .ok (.iconst (-1), 1) := by decide +kernel
theorem dX9_withdraw_24 : decode cX9_withdraw 24 = .ok (.invokevirtual 130, 3) := by decide +kernel
theorem dX9_withdraw_27 : decode cX9_withdraw 27 = .ok (.ireturn, 1) := by decide +kernel
theorem dX9_withdraw_28 : decode cX9_withdraw 28 = .ok (.iload_n 1, 1) := by decide +kernel
theorem dX9_withdraw_29 : decode cX9_withdraw 29 = .ok (.ifCond .eq 12, 3) := by decide +kernel
theorem dX9_withdraw_32 : decode cX9_withdraw 32 = .ok (.aload_n 0, 1) := by decide +kernel
theorem dX9_withdraw_33 : decode cX9_withdraw 33 = .ok (.getfield 71, 3) := by decide +kernel
theorem dX9_withdraw_36 : decode cX9_withdraw 36 = .ok (.iload_n 2, 1) := by decide +kernel
theorem dX9_withdraw_37 : decode cX9_withdraw 37 = .ok (.iaload, 1) := by decide +kernel
theorem dX9_withdraw_38 : decode cX9_withdraw 38 = .ok (.goto 9, 3) := by decide +kernel
theorem dX9_withdraw_41 : decode cX9_withdraw 41 = .ok (.aload_n 0, 1) := by decide +kernel
theorem dX9_withdraw_42 : decode cX9_withdraw 42 = .ok (.getfield 89, 3) := by decide +kernel
theorem dX9_withdraw_45 : decode cX9_withdraw 45 = .ok (.iload_n 2, 1) := by decide +kernel
theorem dX9_withdraw_46 : decode cX9_withdraw 46 = .ok (.iaload, 1) := by decide +kernel
theorem dX9_withdraw_47 : decode cX9_withdraw 47 = .ok (.ldc 201, 2) := by decide +kernel
theorem dX9_withdraw_49 : decode cX9_withdraw 49 = .ok (.if_icmp .ge 10, 3) := by decide +kernel
theorem dX9_withdraw_52 : decode cX9_withdraw 52 = .ok (.aload_n 0, 1) := by decide +kernel
theorem dX9_withdraw_53 : decode cX9_withdraw 53 = .ok (.bipush (-3), 2) := by decide +kernel
theorem dX9_withdraw_55 : decode cX9_withdraw 55 = .ok (.invokevirtual 130, 3) := by decide +kernel
theorem dX9_withdraw_58 : decode cX9_withdraw 58 = .ok (.ireturn, 1) := by decide +kernel
theorem dX9_withdraw_59 : decode cX9_withdraw 59 = .ok (.iload_n 3, 1) := by decide +kernel
theorem dX9_withdraw_60 : decode cX9_withdraw 60 = .ok (.iload_n 1, 1) := by decide +kernel
theorem dX9_withdraw_61 : decode cX9_withdraw 61 = .ok (.ifCond .eq 12, 3) := by decide +kernel
theorem dX9_withdraw_64 : decode cX9_withdraw 64 = .ok (.aload_n 0, 1) := by decide +kernel
theorem dX9_withdraw_65 : decode cX9_withdraw 65 = .ok (.getfield 68, 3) := by decide +kernel
theorem dX9_withdraw_68 : decode cX9_withdraw 68 = .ok (.iload_n 2, 1) := by decide +kernel
theorem dX9_withdraw_69 : decode cX9_withdraw 69 = .ok (.iaload, 1) := by decide +kernel
theorem dX9_withdraw_70 : decode cX9_withdraw 70 = .ok (.goto 9, 3) := by decide +kernel
theorem dX9_withdraw_73 : decode cX9_withdraw 73 = .ok (.aload_n 0, 1) := by decide +kernel
theorem dX9_withdraw_74 : decode cX9_withdraw 74 = .ok (.getfield 86, 3) := by decide +kernel
theorem dX9_withdraw_77 : decode cX9_withdraw 77 = .ok (.iload_n 2, 1) := by decide +kernel
theorem dX9_withdraw_78 : decode cX9_withdraw 78 = .ok (.iaload, 1) := by decide +kernel
theorem dX9_withdraw_79 : decode cX9_withdraw 79 = .ok (.ldc 194, 2) := by decide +kernel
theorem dX9_withdraw_81 : decode cX9_withdraw 81 = .ok (.invokestatic 137, 3) := by decide +kernel
theorem dX9_withdraw_84 : decode cX9_withdraw 84 = .ok (.istore 4, 2) := by decide +kernel
theorem dX9_withdraw_86 : decode cX9_withdraw 86 = .ok (.iload 4, 2) := by decide +kernel
theorem dX9_withdraw_88 : decode cX9_withdraw 88 = .ok (.ifCond .eq 10, 3) := by decide +kernel
theorem dX9_withdraw_91 : decode cX9_withdraw 91 = .ok (.aload_n 0, 1) := by decide +kernel
theorem dX9_withdraw_92 : decode cX9_withdraw 92 = .ok (.iload 4, 2) := by decide +kernel
theorem dX9_withdraw_94 : decode cX9_withdraw 94 = .ok (.invokevirtual 130, 3) := by decide +kernel
theorem dX9_withdraw_97 : decode cX9_withdraw 97 = .ok (.ireturn, 1) := by decide +kernel
theorem dX9_withdraw_98 : decode cX9_withdraw 98 = .ok (.iload_n 1, 1) := by decide +kernel
theorem dX9_withdraw_99 : decode cX9_withdraw 99 = .ok (.ifCond .eq 13, 3) := by decide +kernel
theorem dX9_withdraw_102 : decode cX9_withdraw 102 = .ok (.aload_n 0, 1) := by decide +kernel
theorem dX9_withdraw_103 : decode cX9_withdraw 103 = .ok (.getfield 71, 3) := by decide +kernel
theorem dX9_withdraw_106 : decode cX9_withdraw 106 = .ok (.iload_n 2, 1) := by decide +kernel
theorem dX9_withdraw_107 : decode cX9_withdraw 107 = .ok (.iload_n 3, 1) := by decide +kernel
theorem dX9_withdraw_108 : decode cX9_withdraw 108 = .ok (.iastore, 1) := by decide +kernel
theorem dX9_withdraw_109 : decode cX9_withdraw 109 = .ok (.goto 10, 3) := by decide +kernel
theorem dX9_withdraw_112 : decode cX9_withdraw 112 = .ok (.aload_n 0, 1) := by decide +kernel
theorem dX9_withdraw_113 : decode cX9_withdraw 113 = .ok (.getfield 89, 3) := by decide +kernel
theorem dX9_withdraw_116 : decode cX9_withdraw 116 = .ok (.iload_n 2, 1) := by decide +kernel
theorem dX9_withdraw_117 : decode cX9_withdraw 117 = .ok (.iload_n 3, 1) := by decide +kernel
theorem dX9_withdraw_118 : decode cX9_withdraw 118 = .ok (.iastore, 1) := by decide +kernel
theorem dX9_withdraw_119 : decode cX9_withdraw 119 = .ok (.iconst 1, 1) := by decide +kernel
theorem dX9_withdraw_120 : decode cX9_withdraw 120 = .ok (.ireturn, 1) := by decide +kernel
theorem dX9_isSight_0 : decode cX9_isSight 0 = .ok (.aload_n 0, 1) := by decide +kernel
theorem dX9_isSight_1 : decode cX9_isSight 1 = .ok (.getfield 59, 3) := by decide +kernel
theorem dX9_isSight_4 : decode cX9_isSight 4 = .ok (.iload_n 1, 1) := by decide +kernel
theorem dX9_isSight_5 : decode cX9_isSight 5 = .ok (.iaload, 1) := by decide +kernel
theorem dX9_isSight_6 : decode cX9_isSight 6 = .ok (.iload_n 2, 1) := by decide +kernel
theorem dX9_isSight_7 : decode cX9_isSight 7 = .ok (.if_icmp .ne 27, 3) := by decide +kernel
theorem dX9_isSight_10 : decode cX9_isSight 10 = .ok (.aload_n 0, 1) := by decide +kernel
theorem dX9_isSight_11 : decode cX9_isSight 11 = .ok (.getfield 68, 3) := by decide +kernel
theorem dX9_isSight_14 : decode cX9_isSight 14 = .ok (.iload_n 1, 1) := by decide +kernel
theorem dX9_isSight_15 : decode cX9_isSight 15 = .ok (.iaload, 1) := by decide +kernel
theorem dX9_isSight_16 : decode cX9_isSight 16 = .ok (.iload_n 3, 1) := by decide +kernel
theorem dX9_isSight_17 : decode cX9_isSight 17 = .ok (.if_icmp .gt 17, 3) := by decide +kernel
theorem dX9_isSight_20 : decode cX9_isSight 20 = .ok (.iload_n 3, 1) := by decide +kernel
theorem dX9_isSight_21 : decode cX9_isSight 21 = .ok (.aload_n 0, 1) := by decide +kernel
theorem dX9_isSight_22 : decode cX9_isSight 22 = .ok (.getfield 71, 3) := by decide +kernel
theorem dX9_isSight_25 : decode cX9_isSight 25 = .ok (.iload_n 1, 1) := by decide +kernel
theorem dX9_isSight_26 : decode cX9_isSight 26 = .ok (.iaload, 1) := by decide +kernel
theorem dX9_isSight_27 : decode cX9_isSight 27 = .ok (.if_icmp .ge 7, 3) := by decide +kernel
theorem dX9_isSight_30 : decode cX9_isSight 30 = .ok (.iconst 1, 1) := by decide +kernel
theorem dX9_isSight_31 : decode cX9_isSight 31 = .ok (.goto 4, 3) := by decide +kernel
theorem dX9_isSight_34 : decode cX9_isSight 34 = .ok (.iconst 0, 1) := by decide +kernel
theorem dX9_isSight_35 : decode cX9_isSight 35 = .ok (.ireturn, 1) := by decide +kernel
theorem dX9_isMove_0 : decode cX9_isMove 0 = .ok (.aload_n 0, 1) := by decide +kernel
theorem dX9_isMove_1 : decode cX9_isMove 1 = .ok (.getfield 74, 3) := by decide +kernel
theorem dX9_isMove_4 : decode cX9_isMove 4 = .ok (.iload_n 1, 1) := by decide +kernel
theorem dX9_isMove_5 : decode cX9_isMove 5 = .ok (.iaload, 1) := by decide +kernel
theorem dX9_isMove_6 : decode cX9_isMove 6 = .ok (.iload_n 2, 1) := by decide +kernel
theorem dX9_isMove_7 : decode cX9_isMove 7 = .ok (.if_icmp .ne 27, 3) := by decide +kernel
theorem dX9_isMove_10 : decode cX9_isMove 10 = .ok (.aload_n 0, 1) := by decide +kernel
theorem dX9_isMove_11 : decode cX9_isMove 11 = .ok (.getfield 86, 3) := by decide +kernel
theorem dX9_isMove_14 : decode cX9_isMove 14 = .ok (.iload_n 1, 1) := by decide +kernel
theorem dX9_isMove_15 : decode cX9_isMove 15 = .ok (.iaload, 1) := by decide +kernel
theorem dX9_isMove_16 : decode cX9_isMove 16 = .ok (.iload_n 3, 1) := by decide +kernel
theorem dX9_isMove_17 : decode cX9_isMove 17 = .ok (.if_icmp .gt 17, 3) := by decide +kernel
theorem dX9_isMove_20 : decode cX9_isMove 20 = .ok (.iload_n 3, 1) := by decide +kernel
theorem dX9_isMove_21 : decode cX9_isMove 21 = .ok (.aload_n 0, 1) := by decide +kernel
theorem dX9_isMove_22 : decode cX9_isMove 22 = .ok (.getfield 89, 3) := by decide +kernel
theorem dX9_isMove_25 : decode cX9_isMove 25 = .ok (.iload_n 1, 1) := by decide +kernel
theorem dX9_isMove_26 : decode cX9_isMove 26 = .ok (.iaload, 1) := by decide +kernel
theorem dX9_isMove_27 : decode cX9_isMove 27 = .ok (.if_icmp .ge 7, 3) := by decide +kernel
theorem dX9_isMove_30 : decode cX9_isMove 30 = .ok (.iconst 1, 1) := by decide +kernel
theorem dX9_isMove_31 : decode cX9_isMove 31 = .ok (.goto 4, 3) := by decide +kernel
theorem dX9_isMove_34 : decode cX9_isMove 34 = .ok (.iconst 0, 1) := by decide +kernel
theorem dX9_isMove_35 : decode cX9_isMove 35 = .ok (.ireturn, 1) := by decide +kernel
theorem dX9_where_0 : decode cX9_where 0 = .ok (.iload_n 1, 1) := by decide +kernel
theorem dX9_where_1 : decode cX9_where 1 = .ok (.bipush 12, 2) := by decide +kernel
theorem dX9_where_3 : decode cX9_where 3 = .ok (.invokestatic 126, 3) := by decide +kernel
theorem dX9_where_6 : decode cX9_where 6 = .ok (.ifCond .eq 11, 3) := by decide +kernel
theorem dX9_where_9 : decode cX9_where 9 = .ok (.iload_n 2, 1) := by decide +kernel
theorem dX9_where_10 : decode cX9_where 10 = .ok (.iload_n 3, 1) := by decide +kernel
theorem dX9_where_11 : decode cX9_where 11 = .ok (.invokestatic 195, 3) := by decide +kernel
theorem dX9_where_14 : decode cX9_where 14 = .ok (.goto 4, 3) := by decide +kernel
theorem dX9_where_17 : decode cX9_where 17 = .ok (.iconst (-1), 1) := by decide +kernel
theorem dX9_where_18 : decode cX9_where 18 = .ok (.istore 4, 2) := by decide +kernel
theorem dX9_where_20 : decode cX9_where 20 = .ok (.iload 4, 2) := by decide +kernel
theorem dX9_where_22 : decode cX9_where 22 = .ok (.ifCond .eq 10, 3) := by decide +kernel
theorem dX9_where_25 : decode cX9_where 25 = .ok (.aload_n 0, 1) := by decide +kernel
theorem dX9_where_26 : decode cX9_where 26 = .ok (.iload 4, 2) := by decide +kernel
theorem dX9_where_28 : decode cX9_where 28 = .ok (.invokevirtual 130, 3) := by decide +kernel
theorem dX9_where_31 : decode cX9_where 31 = .ok (.ireturn, 1) := by decide +kernel
theorem dX9_where_32 : decode cX9_where 32 = .ok (.iconst (-1), 1) := by decide +kernel
theorem dX9_where_33 : decode cX9_where 33 = .ok (.istore 5, 2) := by decide +kernel
theorem dX9_where_35 : decode cX9_where 35 = .ok (.iconst 0, 1) := by decide +kernel
theorem dX9_where_36 : decode cX9_where 36 = .ok (.istore 6, 2) := by decide +kernel
theorem dX9_where_38 : decode cX9_where 38 = .ok (.iload 6, 2) := by decide +kernel
theorem dX9_where_40 : decode cX9_where 40 = .ok (.aload_n 0, 1) := by decide +kernel
theorem dX9_where_41 : decode cX9_where 41 = .ok (.getfield 198, 3) := by decide +kernel
theorem dX9_where_44 : decode cX9_where 44 = .ok (.if_icmp .ge 57, 3) := by decide +kernel
theorem dX9_where_47 : decode cX9_where 47 = .ok (.aload_n 0, 1) := by decide +kernel
theorem dX9_where_48 : decode cX9_where 48 = .ok (.iload 6, 2) := by decide +kernel
theorem dX9_where_50 : decode cX9_where 50 = .ok (.iload_n 1, 1) := by decide +kernel
theorem dX9_where_51 : decode cX9_where 51 = .ok (.iload_n 3, 1) := by decide +kernel
theorem dX9_where_52 : decode cX9_where 52 = .ok (.invokevirtual 205, 3) := by decide +kernel
theorem dX9_where_55 : decode cX9_where 55 = .ok (.ifCond .eq 40, 3) := by decide +kernel
theorem dX9_where_58 : decode cX9_where 58 = .ok (.aload_n 0, 1) := by decide +kernel
theorem dX9_where_59 : decode cX9_where 59 = .ok (.getfield 65, 3) := by decide +kernel
theorem dX9_where_62 : decode cX9_where 62 = .ok (.iload 6, 2) := by decide +kernel
theorem dX9_where_64 : decode cX9_where 64 = .ok (.iaload, 1) := by decide +kernel
theorem dX9_where_65 : decode cX9_where 65 = .ok (.iload_n 2, 1) := by decide +kernel
theorem dX9_where_66 : decode cX9_where 66 = .ok (.if_icmp .gt 29, 3) := by decide +kernel
theorem dX9_where_69 : decode cX9_where 69 = .ok (.iload 5, 2) := by decide +kernel
theorem dX9_where_71 : decode cX9_where 71 = .ok (.ifCond .lt 20, 3) := by decide +kernel
theorem dX9_where_74 : decode cX9_where 74 = .ok (.aload_n 0, 1) := by decide +kernel
theorem dX9_where_75 : decode cX9_where 75 = .ok (.getfield 65, 3) := by decide +kernel
theorem dX9_where_78 : decode cX9_where 78 = .ok (.iload 6, 2) := by decide +kernel
theorem dX9_where_80 : decode cX9_where 80 = .ok (.iaload, 1) := by decide +kernel
theorem dX9_where_81 : decode cX9_where 81 = .ok (.aload_n 0, 1) := by decide +kernel
theorem dX9_where_82 : decode cX9_where 82 = .ok (.getfield 65, 3) := by decide +kernel
theorem dX9_where_85 : decode cX9_where 85 = .ok (.iload 5, 2) := by decide +kernel
theorem dX9_where_87 : decode cX9_where 87 = .ok (.iaload, 1) := by decide +kernel
theorem dX9_where_88 : decode cX9_where 88 = .ok (.if_icmp .lt 7, 3) := by decide +kernel
theorem dX9_where_91 : decode cX9_where 91 = .ok (.iload 6, 2) := by decide +kernel
theorem dX9_where_93 : decode cX9_where 93 = .ok (.istore 5, 2) := by decide +kernel
theorem dX9_where_95 : decode cX9_where 95 = .ok (.iinc 6 1, 3) := by decide +kernel
theorem dX9_where_98 : decode cX9_where 98 = .ok (.goto (-60), 3) := by decide +kernel
theorem dX9_where_101 : decode cX9_where 101 = .ok (.iload 5, 2) := by decide +kernel
theorem dX9_where_103 : decode cX9_where 103 = .ok (.ifCond .ge 8, 3) := by decide +kernel
theorem dX9_where_106 : decode cX9_where 106 = .ok (.bipush (-9), 2) := by decide +kernel
theorem dX9_where_108 : decode cX9_where 108 = .ok (.goto 10, 3) := by decide +kernel
theorem dX9_where_111 : decode cX9_where 111 = .ok (.aload_n 0, 1) := by decide +kernel
theorem dX9_where_112 : decode cX9_where 112 = .ok (.getfield 62, 3) := by decide +kernel
theorem dX9_where_115 : decode cX9_where 115 = .ok (.iload 5, 2) := by decide +kernel
theorem dX9_where_117 : decode cX9_where 117 = .ok (.iaload, 1) := by decide +kernel
theorem dX9_where_118 : decode cX9_where 118 = .ok (.ireturn, 1) := by decide +kernel
theorem dX9_quarrels_0 : decode cX9_quarrels 0 = .ok (.iload_n 1, 1) := by decide +kernel
theorem dX9_quarrels_1 : decode cX9_quarrels 1 = .ok (.bipush 12, 2) := by decide +kernel
theorem dX9_quarrels_3 : decode cX9_quarrels 3 = .ok (.invokestatic 126, 3) := by decide +kernel
theorem dX9_quarrels_6 : decode cX9_quarrels 6 = .ok (.ifCond .eq 13, 3) := by decide +kernel
theorem dX9_quarrels_9 : decode cX9_quarrels 9 = .ok (.iload_n 2, 1) := by decide +kernel
theorem dX9_quarrels_10 : decode cX9_quarrels 10 = .ok (.iconst 0, 1) := by decide +kernel
theorem dX9_quarrels_11 : decode cX9_quarrels 11 = .ok (.ldc 194, 2) := by decide +kernel
theorem dX9_quarrels_13 : decode cX9_quarrels 13 = .ok (.invokestatic 137, 3) := by decide +kernel
theorem dX9_quarrels_16 : decode cX9_quarrels 16 = .ok (.goto 4, 3) := by decide +kernel
theorem dX9_quarrels_19 : decode cX9_quarrels 19 = .ok (.iconst (-1), 1) := by decide +kernel
theorem dX9_quarrels_20 : decode cX9_quarrels 20 = .ok (.istore_n 3, 1) := by decide +kernel
theorem dX9_quarrels_21 : decode cX9_quarrels 21 = .ok (.iload_n 3, 1) := by decide +kernel
theorem dX9_quarrels_22 : decode cX9_quarrels 22 = .ok (.ifCond .eq 9, 3) := by decide +kernel
theorem dX9_quarrels_25 : decode cX9_quarrels 25 = .ok (.aload_n 0, 1) := by decide +kernel
theorem dX9_quarrels_26 : decode cX9_quarrels 26 = .ok (.iload_n 3, 1) := by decide +kernel
theorem dX9_quarrels_27 : decode cX9_quarrels 27 = .ok (.invokevirtual 130, 3) := by decide +kernel
theorem dX9_quarrels_30 : decode cX9_quarrels 30 = .ok (.ireturn, 1) := by decide +kernel
theorem dX9_quarrels_31 : decode cX9_quarrels 31 = .ok (.iconst 0, 1) := by decide +kernel
theorem dX9_quarrels_32 : decode cX9_quarrels 32 = .ok (.istore 4, 2) := by decide +kernel
theorem dX9_quarrels_34 : decode cX9_quarrels 34 = .ok (.iconst 0, 1) := by decide +kernel
theorem dX9_quarrels_35 : decode cX9_quarrels 35 = .ok (.istore 5, 2) := by decide +kernel
theorem dX9_quarrels_37 : decode cX9_quarrels 37 = .ok (.iload 5, 2) := by decide +kernel
theorem dX9_quarrels_39 : decode cX9_quarrels 39 = .ok (.aload_n 0, 1) := by decide +kernel
theorem dX9_quarrels_40 : decode cX9_quarrels 40 = .ok (.getfield 198, 3) := by decide +kernel
theorem dX9_quarrels_43 : decode cX9_quarrels 43 = .ok (.if_icmp .ge 146, 3) := by decide +kernel
theorem dX9_quarrels_46 : decode cX9_quarrels 46 = .ok (.aload_n 0, 1) := by decide +kernel
theorem dX9_quarrels_47 : decode cX9_quarrels 47 = .ok (.iload 5, 2) := by decide +kernel
theorem dX9_quarrels_49 : decode cX9_quarrels 49 = .ok (.iload_n 1, 1) := by decide +kernel
theorem dX9_quarrels_50 : decode cX9_quarrels 50 = .ok (.iload_n 2, 1) := by decide +kernel
theorem dX9_quarrels_51 : decode cX9_quarrels 51 = .ok (.invokevirtual 205, 3) := by decide +kernel
theorem dX9_quarrels_54 : decode cX9_quarrels 54 = .ok (.ifCond .ne 6, 3) := by decide +kernel
theorem dX9_quarrels_57 : decode cX9_quarrels 57 = .ok (.goto 126, 3) := by decide +kernel
theorem dX9_quarrels_60 : decode cX9_quarrels 60 = .ok (.iconst 1, 1) := by decide +kernel
theorem dX9_quarrels_61 : decode cX9_quarrels 61 = .ok (.istore 6, 2) := by decide +kernel
theorem dX9_quarrels_63 : decode cX9_quarrels 63 = .ok (.iconst 0, 1) := by decide +kernel
theorem dX9_quarrels_64 : decode cX9_quarrels 64 = .ok (.istore 7, 2) := by decide +kernel
theorem dX9_quarrels_66 : decode cX9_quarrels 66 = .ok (.iconst 0, 1) := by decide +kernel
theorem dX9_quarrels_67 : decode cX9_quarrels 67 = .ok (.istore 8, 2) := by decide +kernel
theorem dX9_quarrels_69 : decode cX9_quarrels 69 = .ok (.iload 8, 2) := by decide +kernel
theorem dX9_quarrels_71 : decode cX9_quarrels 71 = .ok (.aload_n 0, 1) := by decide +kernel
theorem dX9_quarrels_72 : decode cX9_quarrels 72 = .ok (.getfield 198, 3) := by decide +kernel
theorem dX9_quarrels_75 : decode cX9_quarrels 75 = .ok (.if_icmp .ge 88, 3) := by decide +kernel
theorem dX9_quarrels_78 : decode cX9_quarrels 78 = .ok (.aload_n 0, 1) := by decide +kernel
theorem dX9_quarrels_79 : decode cX9_quarrels 79 = .ok (.iload 8, 2) := by decide +kernel
theorem dX9_quarrels_81 : decode cX9_quarrels 81 = .ok (.iload_n 1, 1) := by decide +kernel
theorem dX9_quarrels_82 : decode cX9_quarrels 82 = .ok (.iload_n 2, 1) := by decide +kernel
theorem dX9_quarrels_83 : decode cX9_quarrels 83 = .ok (.invokevirtual 205, 3) := by decide +kernel
theorem dX9_quarrels_86 : decode cX9_quarrels 86 = .ok (.ifCond .eq 71, 3) := by decide +kernel
theorem dX9_quarrels_89 : decode cX9_quarrels 89 = .ok (.aload_n 0, 1) := by decide +kernel
theorem dX9_quarrels_90 : decode cX9_quarrels 90 = .ok (.getfield 65, 3) := by decide +kernel
theorem dX9_quarrels_93 : decode cX9_quarrels 93 = .ok (.iload 8, 2) := by decide +kernel
theorem dX9_quarrels_95 : decode cX9_quarrels 95 = .ok (.iaload, 1) := by decide +kernel
theorem dX9_quarrels_96 : decode cX9_quarrels 96 = .ok (.aload_n 0, 1) := by decide +kernel
theorem dX9_quarrels_97 : decode cX9_quarrels 97 = .ok (.getfield 65, 3) := by decide +kernel
theorem dX9_quarrels_100 : decode cX9_quarrels 100 = .ok (.iload 5, 2) := by decide +kernel
theorem dX9_quarrels_102 : decode cX9_quarrels 102 = .ok (.iaload, 1) := by decide +kernel
theorem dX9_quarrels_103 : decode cX9_quarrels 103 = .ok (.if_icmp .eq 6, 3) := by decide +kernel
theorem dX9_quarrels_106 : decode cX9_quarrels 106 = .ok (.goto 51, 3) := by decide +kernel
theorem dX9_quarrels_109 : decode cX9_quarrels 109 = .ok (.iload 6, 2) := by decide +kernel
theorem dX9_quarrels_111 : decode cX9_quarrels 111 = .ok (.ifCond .eq 14, 3) := by decide +kernel
theorem dX9_quarrels_114 : decode cX9_quarrels 114 = .ok (.iload 8, 2) := by decide +kernel
theorem dX9_quarrels_116 : decode cX9_quarrels 116 = .ok (.iload 5, 2) := by decide +kernel
theorem dX9_quarrels_118 : decode cX9_quarrels 118 = .ok (.if_icmp .lt 7, 3) := by decide +kernel
theorem dX9_quarrels_121 : decode cX9_quarrels 121 = .ok (.iconst 1, 1) := by decide +kernel
theorem dX9_quarrels_122 : decode cX9_quarrels 122 = .ok (.goto 4, 3) := by decide +kernel
theorem dX9_quarrels_125 : decode cX9_quarrels 125 = .ok (.iconst 0, 1) := by decide +kernel
theorem dX9_quarrels_126 : decode cX9_quarrels 126 = .ok (.istore 6, 2) := by decide +kernel
theorem dX9_quarrels_128 : decode cX9_quarrels 128 = .ok (.iload 7, 2) := by decide +kernel
theorem dX9_quarrels_130 : decode cX9_quarrels 130 = .ok (.ifCond .ne 20, 3) := by decide +kernel
theorem dX9_quarrels_133 : decode cX9_quarrels 133 = .ok (.aload_n 0, 1) := by decide +kernel
theorem dX9_quarrels_134 : decode cX9_quarrels 134 = .ok (.getfield 62, 3) := by decide +kernel
theorem dX9_quarrels_137 : decode cX9_quarrels 137 = .ok (.iload 8, 2) := by decide +kernel
theorem dX9_quarrels_139 : decode cX9_quarrels 139 = .ok (.iaload, 1) := by decide +kernel
theorem dX9_quarrels_140 : decode cX9_quarrels 140 = .ok (.aload_n 0, 1) := by decide +kernel
theorem dX9_quarrels_141 : decode cX9_quarrels 141 = .ok (.getfield 62, 3) := by decide +kernel
theorem dX9_quarrels_144 : decode cX9_quarrels 144 = .ok (.iload 5, 2) := by decide +kernel
theorem dX9_quarrels_146 : decode cX9_quarrels 146 = .ok (.iaload, 1) := by decide +kernel
theorem dX9_quarrels_147 : decode cX9_quarrels 147 = .ok (.if_icmp .eq 7, 3) := by decide +kernel
theorem dX9_quarrels_150 : decode cX9_quarrels 150 = .ok (.iconst 1, 1) := by decide +kernel
theorem dX9_quarrels_151 : decode cX9_quarrels 151 = .ok (.goto 4, 3) := by decide +kernel
theorem dX9_quarrels_154 : decode cX9_quarrels 154 = .ok (.iconst 0, 1) := by decide +kernel
theorem dX9_quarrels_155 : decode cX9_quarrels 155 = .ok (.istore 7, 2) := by decide +kernel
theorem dX9_quarrels_157 : decode cX9_quarrels 157 = .ok (.iinc 8 1, 3) := by decide +kernel
theorem dX9_quarrels_160 : decode cX9_quarrels 160 = .ok (.goto (-91), 3) := by decide +kernel
theorem dX9_quarrels_163 : decode cX9_quarrels 163 = .ok (.iload 4, 2) := by decide +kernel
theorem dX9_quarrels_165 : decode cX9_quarrels 165 = .ok (.iload 6, 2) := by decide +kernel
theorem dX9_quarrels_167 : decode cX9_quarrels 167 = .ok (.ifCond .eq 12, 3) := by decide +kernel
theorem dX9_quarrels_170 : decode cX9_quarrels 170 = .ok (.iload 7, 2) := by decide +kernel
theorem dX9_quarrels_172 : decode cX9_quarrels 172 = .ok (.ifCond .eq 7, 3) := by decide +kernel
theorem dX9_quarrels_175 : decode cX9_quarrels 175 = .ok (.iconst 1, 1) := by decide +kernel
theorem dX9_quarrels_176 : decode cX9_quarrels 176 = .ok (.goto 4, 3) := by decide +kernel
theorem dX9_quarrels_179 : decode cX9_quarrels 179 = .ok (.iconst 0, 1) := by decide +kernel
theorem dX9_quarrels_180 : decode cX9_quarrels 180 = .ok (.iadd, 1) := by decide +kernel
theorem dX9_quarrels_181 : decode cX9_quarrels 181 = .ok (.istore 4, 2) := by decide +kernel
theorem dX9_quarrels_183 : decode cX9_quarrels 183 = .ok (.iinc 5 1, 3) := by decide +kernel
theorem dX9_quarrels_186 : decode cX9_quarrels 186 = .ok (.goto (-149), 3) := by decide +kernel
theorem dX9_quarrels_189 : decode cX9_quarrels 189 = .ok (.iload 4, 2) := by decide +kernel
theorem dX9_quarrels_191 : decode cX9_quarrels 191 = .ok (.ireturn, 1) := by decide +kernel
theorem dX9_goes_0 : decode cX9_goes 0 = .ok (.iconst 0, 1) := by decide +kernel
theorem dX9_goes_1 : decode cX9_goes 1 = .ok (.istore 4, 2) := by decide +kernel
theorem dX9_goes_3 : decode cX9_goes 3 = .ok (.iconst 0, 1) := by decide +kernel
theorem dX9_goes_4 : decode cX9_goes 4 = .ok (.istore 5, 2) := by decide +kernel
theorem dX9_goes_6 : decode cX9_goes 6 = .ok (.iload 5, 2) := by decide +kernel
theorem dX9_goes_8 : decode cX9_goes 8 = .ok (.aload_n 0, 1) := by decide +kernel
theorem dX9_goes_9 : decode cX9_goes 9 = .ok (.getfield 202, 3) := by decide +kernel
theorem dX9_goes_12 : decode cX9_goes 12 = .ok (.if_icmp .ge 101, 3) := by decide +kernel
theorem dX9_goes_15 : decode cX9_goes 15 = .ok (.aload_n 0, 1) := by decide +kernel
theorem dX9_goes_16 : decode cX9_goes 16 = .ok (.iload 5, 2) := by decide +kernel
theorem dX9_goes_18 : decode cX9_goes 18 = .ok (.iload_n 1, 1) := by decide +kernel
theorem dX9_goes_19 : decode cX9_goes 19 = .ok (.iload_n 3, 1) := by decide +kernel
theorem dX9_goes_20 : decode cX9_goes 20 = .ok (.invokevirtual 208, 3) := by decide +kernel
theorem dX9_goes_23 : decode cX9_goes 23 = .ok (.ifCond .eq 84, 3) := by decide +kernel
theorem dX9_goes_26 : decode cX9_goes 26 = .ok (.aload_n 0, 1) := by decide +kernel
theorem dX9_goes_27 : decode cX9_goes 27 = .ok (.getfield 80, 3) := by decide +kernel
theorem dX9_goes_30 : decode cX9_goes 30 = .ok (.iload 5, 2) := by decide +kernel
theorem dX9_goes_32 : decode cX9_goes 32 = .ok (.iaload, 1) := by decide +kernel
theorem dX9_goes_33 : decode cX9_goes 33 = .ok (.iload_n 2, 1) := by decide +kernel
theorem dX9_goes_34 : decode cX9_goes 34 = .ok (.if_icmp .le 6, 3) := by decide +kernel
theorem dX9_goes_37 : decode cX9_goes 37 = .ok (.goto 70, 3) := by decide +kernel
theorem dX9_goes_40 : decode cX9_goes 40 = .ok (.iload 4, 2) := by decide +kernel
theorem dX9_goes_42 : decode cX9_goes 42 = .ok (.istore 6, 2) := by decide +kernel
theorem dX9_goes_44 : decode cX9_goes 44 = .ok (.iload 6, 2) := by decide +kernel
theorem dX9_goes_46 : decode cX9_goes 46 = .ok (.ifCond .le 49, 3) := by decide +kernel
theorem dX9_goes_49 : decode cX9_goes 49 = .ok (.aload_n 0, 1) := by decide +kernel
theorem dX9_goes_50 : decode cX9_goes 50 = .ok (.getfield 80, 3) := by decide +kernel
theorem dX9_goes_53 : decode cX9_goes 53 = .ok (.aload_n 0, 1) := by decide +kernel
theorem dX9_goes_54 : decode cX9_goes 54 = .ok (.getfield 92, 3) := by decide +kernel
theorem dX9_goes_57 : decode cX9_goes 57 = .ok (.iload 6, 2) := by decide +kernel
theorem dX9_goes_59 : decode cX9_goes 59 = .ok (.iconst 1, 1) := by decide +kernel
theorem dX9_goes_60 : decode cX9_goes 60 = .ok (.isub, 1) := by decide +kernel
theorem dX9_goes_61 : decode cX9_goes 61 = .ok (.iaload, 1) := by decide +kernel
theorem dX9_goes_62 : decode cX9_goes 62 = .ok (.iaload, 1) := by decide +kernel
theorem dX9_goes_63 : decode cX9_goes 63 = .ok (.aload_n 0, 1) := by decide +kernel
theorem dX9_goes_64 : decode cX9_goes 64 = .ok (.getfield 80, 3) := by decide +kernel
theorem dX9_goes_67 : decode cX9_goes 67 = .ok (.iload 5, 2) := by decide +kernel
theorem dX9_goes_69 : decode cX9_goes 69 = .ok (.iaload, 1) := by decide +kernel
theorem dX9_goes_70 : decode cX9_goes 70 = .ok (.if_icmp .le 25, 3) := by decide +kernel
theorem dX9_goes_73 : decode cX9_goes 73 = .ok (.aload_n 0, 1) := by decide +kernel
theorem dX9_goes_74 : decode cX9_goes 74 = .ok (.getfield 92, 3) := by decide +kernel
theorem dX9_goes_77 : decode cX9_goes 77 = .ok (.iload 6, 2) := by decide +kernel
theorem dX9_goes_79 : decode cX9_goes 79 = .ok (.aload_n 0, 1) := by decide +kernel
theorem dX9_goes_80 : decode cX9_goes 80 = .ok (.getfield 92, 3) := by decide +kernel
theorem dX9_goes_83 : decode cX9_goes 83 = .ok (.iload 6, 2) := by decide +kernel
theorem dX9_goes_85 : decode cX9_goes 85 = .ok (.iconst 1, 1) := by decide +kernel
theorem dX9_goes_86 : decode cX9_goes 86 = .ok (.isub, 1) := by decide +kernel
theorem dX9_goes_87 : decode cX9_goes 87 = .ok (.iaload, 1) := by decide +kernel
theorem dX9_goes_88 : decode cX9_goes 88 = .ok (.iastore, 1) := by decide +kernel
theorem dX9_goes_89 : decode cX9_goes 89 = .ok (.iinc 6 (-1), 3) := by decide +kernel
theorem dX9_goes_92 : decode cX9_goes 92 = .ok (.goto (-48), 3) := by decide +kernel
theorem dX9_goes_95 : decode cX9_goes 95 = .ok (.aload_n 0, 1) := by decide +kernel
theorem dX9_goes_96 : decode cX9_goes 96 = .ok (.getfield 92, 3) := by decide +kernel
theorem dX9_goes_99 : decode cX9_goes 99 = .ok (.iload 6, 2) := by decide +kernel
theorem dX9_goes_101 : decode cX9_goes 101 = .ok (.iload 5, 2) := by decide +kernel
theorem dX9_goes_103 : decode cX9_goes 103 = .ok (.iastore, 1) := by decide +kernel
theorem dX9_goes_104 : decode cX9_goes 104 = .ok (.iinc 4 1, 3) := by decide +kernel
theorem dX9_goes_107 : decode cX9_goes 107 = .ok (.iinc 5 1, 3) := by decide +kernel
theorem dX9_goes_110 : decode cX9_goes 110 = .ok (.goto (-104), 3) := by decide +kernel
theorem dX9_goes_113 : decode cX9_goes 113 = .ok (.aload_n 0, 1) := by decide +kernel
theorem dX9_goes_114 : decode cX9_goes 114 = .ok (.bipush (-9), 2) := by decide +kernel
theorem dX9_goes_116 : decode cX9_goes 116 = .ok (.putfield 211, 3) := by decide +kernel
theorem dX9_goes_119 : decode cX9_goes 119 = .ok (.aload_n 0, 1) := by decide +kernel
theorem dX9_goes_120 : decode cX9_goes 120 = .ok (.bipush (-9), 2) := by decide +kernel
theorem dX9_goes_122 : decode cX9_goes 122 = .ok (.putfield 214, 3) := by decide +kernel
theorem dX9_goes_125 : decode cX9_goes 125 = .ok (.aload_n 0, 1) := by decide +kernel
theorem dX9_goes_126 : decode cX9_goes 126 = .ok (.iconst 0, 1) := by decide +kernel
theorem dX9_goes_127 : decode cX9_goes 127 = .ok (.putfield 217, 3) := by decide +kernel
theorem dX9_goes_130 : decode cX9_goes 130 = .ok (.iconst 0, 1) := by decide +kernel
theorem dX9_goes_131 : decode cX9_goes 131 = .ok (.istore 5, 2) := by decide +kernel
theorem dX9_goes_133 : decode cX9_goes 133 = .ok (.iconst 0, 1) := by decide +kernel
theorem dX9_goes_134 : decode cX9_goes 134 = .ok (.istore 6, 2) := by decide +kernel
theorem dX9_goes_136 : decode cX9_goes 136 = .ok (.iload 6, 2) := by decide +kernel
theorem dX9_goes_138 : decode cX9_goes 138 = .ok (.iload 4, 2) := by decide +kernel
theorem dX9_goes_140 : decode cX9_goes 140 = .ok (.if_icmp .ge 138, 3) := by decide +kernel
theorem dX9_goes_143 : decode cX9_goes 143 = .ok (.aload_n 0, 1) := by decide +kernel
theorem dX9_goes_144 : decode cX9_goes 144 = .ok (.getfield 83, 3) := by decide +kernel
theorem dX9_goes_147 : decode cX9_goes 147 = .ok (.aload_n 0, 1) := by decide +kernel
theorem dX9_goes_148 : decode cX9_goes 148 = .ok (.getfield 92, 3) := by decide +kernel
theorem dX9_goes_151 : decode cX9_goes 151 = .ok (.iload 6, 2) := by decide +kernel
theorem dX9_goes_153 : decode cX9_goes 153 = .ok (.iaload, 1) := by decide +kernel
theorem dX9_goes_154 : decode cX9_goes 154 = .ok (.iaload, 1) := by decide +kernel
theorem dX9_goes_155 : decode cX9_goes 155 = .ok (.istore 7, 2) := by decide +kernel
theorem dX9_goes_157 : decode cX9_goes 157 = .ok (.aload_n 0, 1) := by decide +kernel
theorem dX9_goes_158 : decode cX9_goes 158 = .ok (.getfield 77, 3) := by decide +kernel
theorem dX9_goes_161 : decode cX9_goes 161 = .ok (.aload_n 0, 1) := by decide +kernel
theorem dX9_goes_162 : decode cX9_goes 162 = .ok (.getfield 92, 3) := by decide +kernel
theorem dX9_goes_165 : decode cX9_goes 165 = .ok (.iload 6, 2) := by decide +kernel
theorem dX9_goes_167 : decode cX9_goes 167 = .ok (.iaload, 1) := by decide +kernel
theorem dX9_goes_168 : decode cX9_goes 168 = .ok (.iaload, 1) := by decide +kernel
theorem dX9_goes_169 : decode cX9_goes 169 = .ok (.istore 8, 2) := by decide +kernel
theorem dX9_goes_171 : decode cX9_goes 171 = .ok (.iload 7, 2) := by decide +kernel
theorem dX9_goes_173 : decode cX9_goes 173 = .ok (.iconst 3, 1) := by decide +kernel
theorem dX9_goes_174 : decode cX9_goes 174 = .ok (.if_icmp .ne 26, 3) := by decide +kernel
theorem dX9_goes_177 : decode cX9_goes 177 = .ok (.aload_n 0, 1) := by decide +kernel
theorem dX9_goes_178 : decode cX9_goes 178 = .ok (.getfield 95, 3) := by decide +kernel
theorem dX9_goes_181 : decode cX9_goes 181 = .ok (.iload 5, 2) := by decide +kernel
theorem dX9_goes_183 : decode cX9_goes 183 = .ok (.aload_n 0, 1) := by decide +kernel
theorem dX9_goes_184 : decode cX9_goes 184 = .ok (.getfield 211, 3) := by decide +kernel
theorem dX9_goes_187 : decode cX9_goes 187 = .ok (.iastore, 1) := by decide +kernel
theorem dX9_goes_188 : decode cX9_goes 188 = .ok (.iinc 5 1, 3) := by decide +kernel
theorem dX9_goes_191 : decode cX9_goes 191 = .ok (.aload_n 0, 1) := by decide +kernel
theorem dX9_goes_192 : decode cX9_goes 192 = .ok (.iload 8, 2) := by decide +kernel
theorem dX9_goes_194 : decode cX9_goes 194 = .ok (.putfield 211, 3) := by decide +kernel
theorem dX9_goes_197 : decode cX9_goes 197 = .ok (.goto 75, 3) := by decide +kernel
theorem dX9_goes_200 : decode cX9_goes 200 = .ok (.iload 7, 2) := by decide +kernel
theorem dX9_goes_202 : decode cX9_goes 202 = .ok (.iconst 4, 1) := by decide +kernel
theorem dX9_goes_203 : decode cX9_goes 203 = .ok (.if_icmp .ne 28, 3) := by decide +kernel
theorem dX9_goes_206 : decode cX9_goes 206 = .ok (.iload 5, 2) := by decide +kernel
theorem dX9_goes_208 : decode cX9_goes 208 = .ok (.ifCond .ne 6, 3) := by decide +kernel
theorem dX9_goes_211 : decode cX9_goes 211 = .ok (.goto 61, 3) := by decide +kernel
theorem dX9_goes_214 : decode cX9_goes 214 = .ok (.iinc 5 (-1), 3) := by decide +kernel
theorem dX9_goes_217 : decode cX9_goes 217 = .ok (.aload_n 0, 1) := by decide +kernel
theorem dX9_goes_218 : decode cX9_goes 218 = .ok (.aload_n 0, 1) := by decide +kernel
theorem dX9_goes_219 : decode cX9_goes 219 = .ok (.getfield 95, 3) := by decide +kernel
theorem dX9_goes_222 : decode cX9_goes 222 = .ok (.iload 5, 2) := by decide +kernel
theorem dX9_goes_224 : decode cX9_goes 224 = .ok (.iaload, 1) := by decide +kernel
theorem dX9_goes_225 : decode cX9_goes 225 = .ok (.putfield 211, 3) := by decide +kernel
theorem dX9_goes_228 : decode cX9_goes 228 = .ok (.goto 44, 3) := by decide +kernel
theorem dX9_goes_231 : decode cX9_goes 231 = .ok (.aload_n 0, 1) := by decide +kernel
theorem dX9_goes_232 : decode cX9_goes 232 = .ok (.iload 8, 2) := by decide +kernel
theorem dX9_goes_234 : decode cX9_goes 234 = .ok (.putfield 211, 3) := by decide +kernel
theorem dX9_goes_237 : decode cX9_goes 237 = .ok (.iconst 0, 1) := by decide +kernel
theorem dX9_goes_238 : decode cX9_goes 238 = .ok (.istore 5, 2) := by decide +kernel
theorem dX9_goes_240 : decode cX9_goes 240 = .ok (.aload_n 0, 1) := by decide +kernel
theorem dX9_goes_241 : decode cX9_goes 241 = .ok (.iload 7, 2) := by decide +kernel
theorem dX9_goes_243 : decode cX9_goes 243 = .ok (.iconst 2, 1) := by decide +kernel
theorem dX9_goes_244 : decode cX9_goes 244 = .ok (.if_icmp .ne 8, 3) := by decide +kernel
theorem dX9_goes_247 : decode cX9_goes 247 = .ok (.bipush (-9), 2) := by decide +kernel
theorem dX9_goes_249 : decode cX9_goes 249 = .ok (.goto 5, 3) := by decide +kernel
theorem dX9_goes_252 : decode cX9_goes 252 = .ok (.iload 8, 2) := by decide +kernel
theorem dX9_goes_254 : decode cX9_goes 254 = .ok (.putfield 214, 3) := by decide +kernel
theorem dX9_goes_257 : decode cX9_goes 257 = .ok (.aload_n 0, 1) := by decide +kernel
theorem dX9_goes_258 : decode cX9_goes 258 = .ok (.iload 7, 2) := by decide +kernel
theorem dX9_goes_260 : decode cX9_goes 260 = .ok (.iconst 2, 1) := by decide +kernel
theorem dX9_goes_261 : decode cX9_goes 261 = .ok (.if_icmp .ne 7, 3) := by decide +kernel
theorem dX9_goes_264 : decode cX9_goes 264 = .ok (.iconst 1, 1) := by decide +kernel
theorem dX9_goes_265 : decode cX9_goes 265 = .ok (.goto 4, 3) := by decide +kernel
theorem dX9_goes_268 : decode cX9_goes 268 = .ok (.iconst 0, 1) := by decide +kernel
theorem dX9_goes_269 : decode cX9_goes 269 = .ok (.putfield 217, 3) := by decide +kernel
theorem dX9_goes_272 : decode cX9_goes 272 = .ok (.iinc 6 1, 3) := by decide +kernel
theorem dX9_goes_275 : decode cX9_goes 275 = .ok (.goto (-139), 3) := by decide +kernel
theorem dX9_goes_278 : decode cX9_goes 278 = .ok (.return_, 1) := by decide +kernel
theorem dX9_holds_0 : decode cX9_holds 0 = .ok (.iload_n 1, 1) := by decide +kernel
theorem dX9_holds_1 : decode cX9_holds 1 = .ok (.bipush 12, 2) := by decide +kernel
theorem dX9_holds_3 : decode cX9_holds 3 = .ok (.invokestatic 126, 3) := by decide +kernel
theorem dX9_holds_6 : decode cX9_holds 6 = .ok (.ifCond .ne 7, 3) := by decide +kernel
theorem dX9_holds_9 : decode cX9_holds 9 = .ok (.iconst (-1), 1) := by decide +kernel
theorem dX9_holds_10 : decode cX9_holds 10 = .ok (.goto 22, 3) := by decide +kernel
theorem dX9_holds_13 : decode cX9_holds 13 = .ok (.iload 4, 2) := by decide +kernel
theorem dX9_holds_15 : decode cX9_holds 15 = .ok (.iconst 3, 1) := by decide +kernel
theorem dX9_holds_16 : decode cX9_holds 16 = .ok (.invokestatic 126, 3) := by decide +kernel
theorem dX9_holds_19 : decode cX9_holds 19 = .ok (.ifCond .ne 8, 3) := by decide +kernel
theorem dX9_holds_22 : decode cX9_holds 22 = .ok (.bipush (-2), 2) := by decide +kernel
theorem dX9_holds_24 : decode cX9_holds 24 = .ok (.goto 8, 3) := by decide +kernel
theorem dX9_holds_27 : decode cX9_holds 27 = .ok (.iload_n 2, 1) := by decide +kernel
theorem dX9_holds_28 : decode cX9_holds 28 = .ok (.iload_n 3, 1) := by decide +kernel
theorem dX9_holds_29 : decode cX9_holds 29 = .ok (.invokestatic 195, 3) := by decide +kernel
theorem dX9_holds_32 : decode cX9_holds 32 = .ok (.istore 5, 2) := by decide +kernel
theorem dX9_holds_34 : decode cX9_holds 34 = .ok (.iload 5, 2) := by decide +kernel
theorem dX9_holds_36 : decode cX9_holds 36 = .ok (.ifCond .eq 10, 3) := by decide +kernel
theorem dX9_holds_39 : decode cX9_holds 39 = .ok (.aload_n 0, 1) := by decide +kernel
theorem dX9_holds_40 : decode cX9_holds 40 = .ok (.iload 5, 2) := by decide +kernel
theorem dX9_holds_42 : decode cX9_holds 42 = .ok (.invokevirtual 130, 3) := by decide +kernel
theorem dX9_holds_45 : decode cX9_holds 45 = .ok (.ireturn, 1) := by decide +kernel
theorem dX9_holds_46 : decode cX9_holds 46 = .ok (.aload_n 0, 1) := by decide +kernel
theorem dX9_holds_47 : decode cX9_holds 47 = .ok (.iload_n 1, 1) := by decide +kernel
theorem dX9_holds_48 : decode cX9_holds 48 = .ok (.iload_n 2, 1) := by decide +kernel
theorem dX9_holds_49 : decode cX9_holds 49 = .ok (.iload_n 3, 1) := by decide +kernel
theorem dX9_holds_50 : decode cX9_holds 50 = .ok (.invokevirtual 220, 3) := by decide +kernel
theorem dX9_holds_53 : decode cX9_holds 53 = .ok (.iload 4, 2) := by decide +kernel
theorem dX9_holds_55 : decode cX9_holds 55 = .ok (.ifCond .ne 10, 3) := by decide +kernel
theorem dX9_holds_58 : decode cX9_holds 58 = .ok (.aload_n 0, 1) := by decide +kernel
theorem dX9_holds_59 : decode cX9_holds 59 = .ok (.getfield 211, 3) := by decide +kernel
theorem dX9_holds_62 : decode cX9_holds 62 = .ok (.goto 20, 3) := by decide +kernel
theorem dX9_holds_65 : decode cX9_holds 65 = .ok (.iload 4, 2) := by decide +kernel
theorem dX9_holds_67 : decode cX9_holds 67 = .ok (.iconst 1, 1) := by decide +kernel
theorem dX9_holds_68 : decode cX9_holds 68 = .ok (.if_icmp .ne 10, 3) := by decide +kernel
theorem dX9_holds_71 : decode cX9_holds 71 = .ok (.aload_n 0, 1) := by decide +kernel
theorem dX9_holds_72 : decode cX9_holds 72 = .ok (.getfield 214, 3) := by decide +kernel
theorem dX9_holds_75 : decode cX9_holds 75 = .ok (.goto 7, 3) := by decide +kernel
theorem dX9_holds_78 : decode cX9_holds 78 = .ok (.aload_n 0, 1) := by decide +kernel
theorem dX9_holds_79 : decode cX9_holds 79 = .ok (.getfield 217, 3) := by decide +kernel
theorem dX9_holds_82 : decode cX9_holds 82 = .ok (.ireturn, 1) := by decide +kernel
theorem dX9_since_0 : decode cX9_since 0 = .ok (.iload_n 1, 1) := by decide +kernel
theorem dX9_since_1 : decode cX9_since 1 = .ok (.bipush 12, 2) := by decide +kernel
theorem dX9_since_3 : decode cX9_since 3 = .ok (.invokestatic 126, 3) := by decide +kernel
theorem dX9_since_6 : decode cX9_since 6 = .ok (.ifCond .eq 11, 3) := by decide +kernel
theorem dX9_since_9 : decode cX9_since 9 = .ok (.iload_n 2, 1) := by decide +kernel
theorem dX9_since_10 : decode cX9_since 10 = .ok (.iload_n 3, 1) := by decide +kernel
theorem dX9_since_11 : decode cX9_since 11 = .ok (.invokestatic 195, 3) := by decide +kernel
theorem dX9_since_14 : decode cX9_since 14 = .ok (.goto 4, 3) := by decide +kernel
theorem dX9_since_17 : decode cX9_since 17 = .ok (.iconst (-1), 1) := by decide +kernel
theorem dX9_since_18 : decode cX9_since 18 = .ok (.istore 4, 2) := by decide +kernel
theorem dX9_since_20 : decode cX9_since 20 = .ok (.iload 4, 2) := by decide +kernel
theorem dX9_since_22 : decode cX9_since 22 = .ok (.ifCond .eq 10, 3) := by decide +kernel
theorem dX9_since_25 : decode cX9_since 25 = .ok (.aload_n 0, 1) := by decide +kernel
theorem dX9_since_26 : decode cX9_since 26 = .ok (.iload 4, 2) := by decide +kernel
theorem dX9_since_28 : decode cX9_since 28 = .ok (.invokevirtual 130, 3) := by decide +kernel
theorem dX9_since_31 : decode cX9_since 31 = .ok (.ireturn, 1) := by decide +kernel
theorem dX9_since_32 : decode cX9_since 32 = .ok (.aload_n 0, 1) := by decide +kernel
theorem dX9_since_33 : decode cX9_since 33 = .ok (.iload_n 1, 1) := by decide +kernel
theorem dX9_since_34 : decode cX9_since 34 = .ok (.iload_n 2, 1) := by decide +kernel
theorem dX9_since_35 : decode cX9_since 35 = .ok (.iload_n 3, 1) := by decide +kernel
theorem dX9_since_36 : decode cX9_since 36 = .ok (.invokevirtual 220, 3) := by decide +kernel
theorem dX9_since_39 : decode cX9_since 39 = .ok (.aload_n 0, 1) := by decide +kernel
theorem dX9_since_40 : decode cX9_since 40 = .ok (.getfield 211, 3) := by decide +kernel
theorem dX9_since_43 : decode cX9_since 43 = .ok (.istore 5, 2) := by decide +kernel
theorem dX9_since_45 : decode cX9_since 45 = .ok (.aload_n 0, 1) := by decide +kernel
theorem dX9_since_46 : decode cX9_since 46 = .ok (.iload_n 1, 1) := by decide +kernel
theorem dX9_since_47 : decode cX9_since 47 = .ok (.iload_n 3, 1) := by decide +kernel
theorem dX9_since_48 : decode cX9_since 48 = .ok (.invokevirtual 224, 3) := by decide +kernel
theorem dX9_since_51 : decode cX9_since 51 = .ok (.istore 6, 2) := by decide +kernel
theorem dX9_since_53 : decode cX9_since 53 = .ok (.iload 6, 2) := by decide +kernel
theorem dX9_since_55 : decode cX9_since 55 = .ok (.ifCond .le 39, 3) := by decide +kernel
theorem dX9_since_58 : decode cX9_since 58 = .ok (.aload_n 0, 1) := by decide +kernel
theorem dX9_since_59 : decode cX9_since 59 = .ok (.iload_n 1, 1) := by decide +kernel
theorem dX9_since_60 : decode cX9_since 60 = .ok (.iload_n 2, 1) := by decide +kernel
theorem dX9_since_61 : decode cX9_since 61 = .ok (.iload 6, 2) := by decide +kernel
theorem dX9_since_63 : decode cX9_since 63 = .ok (.iconst 1, 1) := by decide +kernel
theorem dX9_since_64 : decode cX9_since 64 = .ok (.isub, 1) := by decide +kernel
theorem dX9_since_65 : decode cX9_since 65 = .ok (.invokevirtual 220, 3) := by decide +kernel
theorem dX9_since_68 : decode cX9_since 68 = .ok (.aload_n 0, 1) := by decide +kernel
theorem dX9_since_69 : decode cX9_since 69 = .ok (.getfield 211, 3) := by decide +kernel
theorem dX9_since_72 : decode cX9_since 72 = .ok (.iload 5, 2) := by decide +kernel
theorem dX9_since_74 : decode cX9_since 74 = .ok (.if_icmp .eq 6, 3) := by decide +kernel
theorem dX9_since_77 : decode cX9_since 77 = .ok (.iload 6, 2) := by decide +kernel
theorem dX9_since_79 : decode cX9_since 79 = .ok (.ireturn, 1) := by decide +kernel
theorem dX9_since_80 : decode cX9_since 80 = .ok (.aload_n 0, 1) := by decide +kernel
theorem dX9_since_81 : decode cX9_since 81 = .ok (.iload_n 1, 1) := by decide +kernel
theorem dX9_since_82 : decode cX9_since 82 = .ok (.iload 6, 2) := by decide +kernel
theorem dX9_since_84 : decode cX9_since 84 = .ok (.iconst 1, 1) := by decide +kernel
theorem dX9_since_85 : decode cX9_since 85 = .ok (.isub, 1) := by decide +kernel
theorem dX9_since_86 : decode cX9_since 86 = .ok (.invokevirtual 224, 3) := by decide +kernel
theorem dX9_since_89 : decode cX9_since 89 = .ok (.istore 6, 2) := by decide +kernel
theorem dX9_since_91 : decode cX9_since 91 = .ok (.goto (-38), 3) := by decide +kernel
theorem dX9_since_94 : decode cX9_since 94 = .ok (.iconst 0, 1) := by decide +kernel
theorem dX9_since_95 : decode cX9_since 95 = .ok (.ireturn, 1) := by decide +kernel
theorem dX9_changed_0 : decode cX9_changed 0 = .ok (.iconst 0, 1) := by decide +kernel
theorem dX9_changed_1 : decode cX9_changed 1 = .ok (.istore_n 3, 1) := by decide +kernel
theorem dX9_changed_2 : decode cX9_changed 2 = .ok (.iconst 0, 1) := by decide +kernel
theorem dX9_changed_3 : decode cX9_changed 3 = .ok (.istore 4, 2) := by decide +kernel
theorem dX9_changed_5 : decode cX9_changed 5 = .ok (.iload 4, 2) := by decide +kernel
theorem dX9_changed_7 : decode cX9_changed 7 = .ok (.aload_n 0, 1) := by decide +kernel
theorem dX9_changed_8 : decode cX9_changed 8 = .ok (.getfield 202, 3) := by decide +kernel
theorem dX9_changed_11 : decode cX9_changed 11 = .ok (.if_icmp .ge 69, 3) := by decide +kernel
theorem dX9_changed_14 : decode cX9_changed 14 = .ok (.aload_n 0, 1) := by decide +kernel
theorem dX9_changed_15 : decode cX9_changed 15 = .ok (.getfield 74, 3) := by decide +kernel
theorem dX9_changed_18 : decode cX9_changed 18 = .ok (.iload 4, 2) := by decide +kernel
theorem dX9_changed_20 : decode cX9_changed 20 = .ok (.iaload, 1) := by decide +kernel
theorem dX9_changed_21 : decode cX9_changed 21 = .ok (.iload_n 1, 1) := by decide +kernel
theorem dX9_changed_22 : decode cX9_changed 22 = .ok (.if_icmp .eq 6, 3) := by decide +kernel
theorem dX9_changed_25 : decode cX9_changed 25 = .ok (.goto 49, 3) := by decide +kernel
theorem dX9_changed_28 : decode cX9_changed 28 = .ok (.aload_n 0, 1) := by decide +kernel
theorem dX9_changed_29 : decode cX9_changed 29 = .ok (.getfield 86, 3) := by decide +kernel
theorem dX9_changed_32 : decode cX9_changed 32 = .ok (.iload 4, 2) := by decide +kernel
theorem dX9_changed_34 : decode cX9_changed 34 = .ok (.iaload, 1) := by decide +kernel
theorem dX9_changed_35 : decode cX9_changed 35 = .ok (.iload_n 2, 1) := by decide +kernel
theorem dX9_changed_36 : decode cX9_changed 36 = .ok (.if_icmp .gt 15, 3) := by decide +kernel
theorem dX9_changed_39 : decode cX9_changed 39 = .ok (.iload_n 3, 1) := by decide +kernel
theorem dX9_changed_40 : decode cX9_changed 40 = .ok (.aload_n 0, 1) := by decide +kernel
theorem dX9_changed_41 : decode cX9_changed 41 = .ok (.getfield 86, 3) := by decide +kernel
theorem dX9_changed_44 : decode cX9_changed 44 = .ok (.iload 4, 2) := by decide +kernel
theorem dX9_changed_46 : decode cX9_changed 46 = .ok (.iaload, 1) := by decide +kernel
theorem dX9_changed_47 : decode cX9_changed 47 = .ok (.invokestatic 162, 3) := by decide +kernel
theorem dX9_changed_50 : decode cX9_changed 50 = .ok (.istore_n 3, 1) := by decide +kernel
theorem dX9_changed_51 : decode cX9_changed 51 = .ok (.aload_n 0, 1) := by decide +kernel
theorem dX9_changed_52 : decode cX9_changed 52 = .ok (.getfield 89, 3) := by decide +kernel
theorem dX9_changed_55 : decode cX9_changed 55 = .ok (.iload 4, 2) := by decide +kernel
theorem dX9_changed_57 : decode cX9_changed 57 = .ok (.iaload, 1) := by decide +kernel
theorem dX9_changed_58 : decode cX9_changed 58 = .ok (.iload_n 2, 1) := by decide +kernel
theorem dX9_changed_59 : decode cX9_changed 59 = .ok (.if_icmp .gt 15, 3) := by decide +kernel
theorem dX9_changed_62 : decode cX9_changed 62 = .ok (.iload_n 3, 1) := by decide +kernel
theorem dX9_changed_63 : decode cX9_changed 63 = .ok (.aload_n 0, 1) := by decide +kernel
theorem dX9_changed_64 : decode cX9_changed 64 = .ok (.getfield 89, 3) := by decide +kernel
theorem dX9_changed_67 : decode cX9_changed 67 = .ok (.iload 4, 2) := by decide +kernel
theorem dX9_changed_69 : decode cX9_changed 69 = .ok (.iaload, 1) := by decide +kernel
theorem dX9_changed_70 : decode cX9_changed 70 = .ok (.invokestatic 162, 3) := by decide +kernel
theorem dX9_changed_73 : decode cX9_changed 73 = .ok (.istore_n 3, 1) := by decide +kernel
theorem dX9_changed_74 : decode cX9_changed 74 = .ok (.iinc 4 1, 3) := by decide +kernel
theorem dX9_changed_77 : decode cX9_changed 77 = .ok (.goto (-72), 3) := by decide +kernel
theorem dX9_changed_80 : decode cX9_changed 80 = .ok (.iload_n 3, 1) := by decide +kernel
theorem dX9_changed_81 : decode cX9_changed 81 = .ok (.ireturn, 1) := by decide +kernel
theorem dX9_visitor_0 : decode cX9_visitor 0 = .ok (.iload_n 1, 1) := by decide +kernel
theorem dX9_visitor_1 : decode cX9_visitor 1 = .ok (.iconst 4, 1) := by decide +kernel
theorem dX9_visitor_2 : decode cX9_visitor 2 = .ok (.invokestatic 126, 3) := by decide +kernel
theorem dX9_visitor_5 : decode cX9_visitor 5 = .ok (.ifCond .ne 10, 3) := by decide +kernel
theorem dX9_visitor_8 : decode cX9_visitor 8 = .ok (.aload_n 0, 1) := by decide +kernel
theorem dX9_visitor_9 : decode cX9_visitor 9 = .ok (.bipush (-2), 2) := by decide +kernel
theorem dX9_visitor_11 : decode cX9_visitor 11 = .ok (.invokevirtual 130, 3) := by decide +kernel
theorem dX9_visitor_14 : decode cX9_visitor 14 = .ok (.ireturn, 1) := by decide +kernel
theorem dX9_visitor_15 : decode cX9_visitor 15 = .ok (.iload_n 2, 1) := by decide +kernel
theorem dX9_visitor_16 : decode cX9_visitor 16 = .ok (.bipush 12, 2) := by decide +kernel
theorem dX9_visitor_18 : decode cX9_visitor 18 = .ok (.invokestatic 126, 3) := by decide +kernel
theorem dX9_visitor_21 : decode cX9_visitor 21 = .ok (.ifCond .eq 22, 3) := by decide +kernel
theorem dX9_visitor_24 : decode cX9_visitor 24 = .ok (.iload_n 1, 1) := by decide +kernel
theorem dX9_visitor_25 : decode cX9_visitor 25 = .ok (.iconst 2, 1) := by decide +kernel
theorem dX9_visitor_26 : decode cX9_visitor 26 = .ok (.if_icmp .ge 23, 3) := by decide +kernel
theorem dX9_visitor_29 : decode cX9_visitor 29 = .ok (.iload_n 3, 1) := by decide +kernel
theorem dX9_visitor_30 : decode cX9_visitor 30 = .ok (.bipush 12, 2) := by decide +kernel
theorem dX9_visitor_32 : decode cX9_visitor 32 = .ok (.invokestatic 126, 3) := by decide +kernel
theorem dX9_visitor_35 : decode cX9_visitor 35 = .ok (.ifCond .eq 8, 3) := by decide +kernel
theorem dX9_visitor_38 : decode cX9_visitor 38 = .ok (.iload_n 2, 1) := by decide +kernel
theorem dX9_visitor_39 : decode cX9_visitor 39 = .ok (.iload_n 3, 1) := by decide +kernel
theorem dX9_visitor_40 : decode cX9_visitor 40 = .ok (.if_icmp .ne 9, 3) := by decide +kernel
theorem dX9_visitor_43 : decode cX9_visitor 43 = .ok (.aload_n 0, 1) := by decide +kernel
theorem dX9_visitor_44 : decode cX9_visitor 44 = .ok (.iconst (-1), 1) := by decide +kernel
theorem dX9_visitor_45 : decode cX9_visitor 45 = .ok (.invokevirtual 130, 3) := by decide +kernel
theorem dX9_visitor_48 : decode cX9_visitor 48 = .ok (.ireturn, 1) := by decide +kernel
theorem dX9_visitor_49 : decode cX9_visitor 49 = .ok (.iload 4, 2) := by decide +kernel
theorem dX9_visitor_51 : decode cX9_visitor 51 = .ok (.iconst 1, 1) := by decide +kernel
theorem dX9_visitor_52 : decode cX9_visitor 52 = .ok (.if_icmp .ge 10, 3) := by decide +kernel
theorem dX9_visitor_55 : decode cX9_visitor 55 = .ok (.aload_n 0, 1) := by decide +kernel
theorem dX9_visitor_56 : decode cX9_visitor 56 = .ok (.bipush (-4), 2) := by decide +kernel
theorem dX9_visitor_58 : decode cX9_visitor 58 = .ok (.invokevirtual 130, 3) := by decide +kernel
theorem dX9_visitor_61 : decode cX9_visitor 61 = .ok (.ireturn, 1) := by decide +kernel
theorem dX9_visitor_62 : decode cX9_visitor 62 = .ok (.iload 4, 2) := by decide +kernel
theorem dX9_visitor_64 : decode cX9_visitor 64 = .ok (.bipush 9, 2) := by decide +kernel
theorem dX9_visitor_66 : decode cX9_visitor 66 = .ok (.if_icmp .gt 12, 3) := by decide +kernel
theorem dX9_visitor_69 : decode cX9_visitor 69 = .ok (.aload_n 0, 1) := by decide +kernel
theorem dX9_visitor_70 : decode cX9_visitor 70 = .ok (.getfield 227, 3) := by decide +kernel
theorem dX9_visitor_73 : decode cX9_visitor 73 = .ok (.bipush 40, 2) := by decide +kernel
theorem dX9_visitor_75 : decode cX9_visitor 75 = .ok (.if_icmp .ne 10, 3) := by decide +kernel
theorem dX9_visitor_78 : decode cX9_visitor 78 = .ok (.aload_n 0, 1) := by decide +kernel
theorem dX9_visitor_79 : decode cX9_visitor 79 = .ok (.bipush (-6), 2) := by decide +kernel
theorem dX9_visitor_81 : decode cX9_visitor 81 = .ok (.invokevirtual 130, 3) := by decide +kernel
theorem dX9_visitor_84 : decode cX9_visitor 84 = .ok (.ireturn, 1) := by decide +kernel
theorem dX9_visitor_85 : decode cX9_visitor 85 = .ok (.aload_n 0, 1) := by decide +kernel
theorem dX9_visitor_86 : decode cX9_visitor 86 = .ok (.getfield 98, 3) := by decide +kernel
theorem dX9_visitor_89 : decode cX9_visitor 89 = .ok (.aload_n 0, 1) := by decide +kernel
theorem dX9_visitor_90 : decode cX9_visitor 90 = .ok (.getfield 227, 3) := by decide +kernel
theorem dX9_visitor_93 : decode cX9_visitor 93 = .ok (.iload_n 1, 1) := by decide +kernel
theorem dX9_visitor_94 : decode cX9_visitor 94 = .ok (.iastore, 1) := by decide +kernel
theorem dX9_visitor_95 : decode cX9_visitor 95 = .ok (.aload_n 0, 1) := by decide +kernel
theorem dX9_visitor_96 : decode cX9_visitor 96 = .ok (.getfield 101, 3) := by decide +kernel
theorem dX9_visitor_99 : decode cX9_visitor 99 = .ok (.aload_n 0, 1) := by decide +kernel
theorem dX9_visitor_100 : decode cX9_visitor 100 = .ok (.getfield 227, 3) := by decide +kernel
theorem dX9_visitor_103 : decode cX9_visitor 103 = .ok (.iload_n 2, 1) := by decide +kernel
theorem dX9_visitor_104 : decode cX9_visitor 104 = .ok (.iastore, 1) := by decide +kernel
theorem dX9_visitor_105 : decode cX9_visitor 105 = .ok (.aload_n 0, 1) := by decide +kernel
theorem dX9_visitor_106 : decode cX9_visitor 106 = .ok (.getfield 104, 3) := by decide +kernel
theorem dX9_visitor_109 : decode cX9_visitor 109 = .ok (.aload_n 0, 1) := by decide +kernel
theorem dX9_visitor_110 : decode cX9_visitor 110 = .ok (.getfield 227, 3) := by decide +kernel
theorem dX9_visitor_113 : decode cX9_visitor 113 = .ok (.iload_n 3, 1) := by decide +kernel
theorem dX9_visitor_114 : decode cX9_visitor 114 = .ok (.iastore, 1) := by decide +kernel
theorem dX9_visitor_115 : decode cX9_visitor 115 = .ok (.aload_n 0, 1) := by decide +kernel
theorem dX9_visitor_116 : decode cX9_visitor 116 = .ok (.getfield 107, 3) := by decide +kernel
theorem dX9_visitor_119 : decode cX9_visitor 119 = .ok (.aload_n 0, 1) := by decide +kernel
theorem dX9_visitor_120 : decode cX9_visitor 120 = .ok (.getfield 227, 3) := by decide +kernel
theorem dX9_visitor_123 : decode cX9_visitor 123 = .ok (.iload 4, 2) := by decide +kernel
theorem dX9_visitor_125 : decode cX9_visitor 125 = .ok (.iastore, 1) := by decide +kernel
theorem dX9_visitor_126 : decode cX9_visitor 126 = .ok (.aload_n 0, 1) := by decide +kernel
theorem dX9_visitor_127 : decode cX9_visitor 127 = .ok (.dup, 1) := by decide +kernel
theorem dX9_visitor_128 : decode cX9_visitor 128 = .ok (.getfield 227, 3) := by decide +kernel
theorem dX9_visitor_131 : decode cX9_visitor 131 = .ok (.iconst 1, 1) := by decide +kernel
theorem dX9_visitor_132 : decode cX9_visitor 132 = .ok (.iadd, 1) := by decide +kernel
theorem dX9_visitor_133 : decode cX9_visitor 133 = .ok (.putfield 227, 3) := by decide +kernel
theorem dX9_visitor_136 : decode cX9_visitor 136 = .ok (.aload_n 0, 1) := by decide +kernel
theorem dX9_visitor_137 : decode cX9_visitor 137 = .ok (.getfield 227, 3) := by decide +kernel
theorem dX9_visitor_140 : decode cX9_visitor 140 = .ok (.iconst 1, 1) := by decide +kernel
theorem dX9_visitor_141 : decode cX9_visitor 141 = .ok (.isub, 1) := by decide +kernel
theorem dX9_visitor_142 : decode cX9_visitor 142 = .ok (.ireturn, 1) := by decide +kernel
theorem dX9_wrongShelf_0 : decode cX9_wrongShelf 0 = .ok (.iload_n 1, 1) := by decide +kernel
theorem dX9_wrongShelf_1 : decode cX9_wrongShelf 1 = .ok (.ifCond .le 10, 3) := by decide +kernel
theorem dX9_wrongShelf_4 : decode cX9_wrongShelf 4 = .ok (.iload_n 1, 1) := by decide +kernel
theorem dX9_wrongShelf_5 : decode cX9_wrongShelf 5 = .ok (.sipush 4096, 3) := by decide +kernel
theorem dX9_wrongShelf_8 : decode cX9_wrongShelf 8 = .ok (.if_icmp .lt 5, 3) := by decide +kernel
theorem dX9_wrongShelf_11 : decode cX9_wrongShelf 11 = .ok (.iconst (-1), 1) := by decide +kernel
theorem dX9_wrongShelf_12 : decode cX9_wrongShelf 12 = .ok (.ireturn, 1) := by decide +kernel
theorem dX9_wrongShelf_13 : decode cX9_wrongShelf 13 = .ok (.iload_n 1, 1) := by decide +kernel
theorem dX9_wrongShelf_14 : decode cX9_wrongShelf 14 = .ok (.invokestatic 159, 3) := by decide +kernel
theorem dX9_wrongShelf_17 : decode cX9_wrongShelf 17 = .ok (.bipush 8, 2) := by decide +kernel
theorem dX9_wrongShelf_19 : decode cX9_wrongShelf 19 = .ok (.if_icmp .le 8, 3) := by decide +kernel
theorem dX9_wrongShelf_22 : decode cX9_wrongShelf 22 = .ok (.bipush (-6), 2) := by decide +kernel
theorem dX9_wrongShelf_24 : decode cX9_wrongShelf 24 = .ok (.goto 4, 3) := by decide +kernel
theorem dX9_wrongShelf_27 : decode cX9_wrongShelf 27 = .ok (.iconst 0, 1) := by decide +kernel
theorem dX9_wrongShelf_28 : decode cX9_wrongShelf 28 = .ok (.ireturn, 1) := by decide +kernel
theorem dX9_wins_0 : decode cX9_wins 0 = .ok (.aload_n 0, 1) := by decide +kernel
theorem dX9_wins_1 : decode cX9_wins 1 = .ok (.getfield 110, 3) := by decide +kernel
theorem dX9_wins_4 : decode cX9_wins 4 = .ok (.iload 4, 2) := by decide +kernel
theorem dX9_wins_6 : decode cX9_wins 6 = .ok (.iaload, 1) := by decide +kernel
theorem dX9_wins_7 : decode cX9_wins 7 = .ok (.istore 5, 2) := by decide +kernel
theorem dX9_wins_9 : decode cX9_wins 9 = .ok (.iconst 0, 1) := by decide +kernel
theorem dX9_wins_10 : decode cX9_wins 10 = .ok (.istore 6, 2) := by decide +kernel
theorem dX9_wins_12 : decode cX9_wins 12 = .ok (.iconst 0, 1) := by decide +kernel
theorem dX9_wins_13 : decode cX9_wins 13 = .ok (.istore 7, 2) := by decide +kernel
theorem dX9_wins_15 : decode cX9_wins 15 = .ok (.iload 7, 2) := by decide +kernel
theorem dX9_wins_17 : decode cX9_wins 17 = .ok (.aload_n 0, 1) := by decide +kernel
theorem dX9_wins_18 : decode cX9_wins 18 = .ok (.getfield 227, 3) := by decide +kernel
theorem dX9_wins_21 : decode cX9_wins 21 = .ok (.if_icmp .ge 287, 3) := by decide +kernel
theorem dX9_wins_24 : decode cX9_wins 24 = .ok (.iload_n 1, 1) := by decide +kernel
theorem dX9_wins_25 : decode cX9_wins 25 = .ok (.aload_n 0, 1) := by decide +kernel
theorem dX9_wins_26 : decode cX9_wins 26 = .ok (.getfield 101, 3) := by decide +kernel
theorem dX9_wins_29 : decode cX9_wins 29 = .ok (.iload 7, 2) := by decide +kernel
theorem dX9_wins_31 : decode cX9_wins 31 = .ok (.iaload, 1) := by decide +kernel
theorem dX9_wins_32 : decode cX9_wins 32 = .ok (.ishr, 1) := by decide +kernel
theorem dX9_wins_33 : decode cX9_wins 33 = .ok (.iconst 1, 1) := by decide +kernel
theorem dX9_wins_34 : decode cX9_wins 34 = .ok (.iand, 1) := by decide +kernel
theorem dX9_wins_35 : decode cX9_wins 35 = .ok (.iconst 1, 1) := by decide +kernel
theorem dX9_wins_36 : decode cX9_wins 36 = .ok (.if_icmp .ne 33, 3) := by decide +kernel
theorem dX9_wins_39 : decode cX9_wins 39 = .ok (.aload_n 0, 1) := by decide +kernel
theorem dX9_wins_40 : decode cX9_wins 40 = .ok (.getfield 98, 3) := by decide +kernel
theorem dX9_wins_43 : decode cX9_wins 43 = .ok (.iload 7, 2) := by decide +kernel
theorem dX9_wins_45 : decode cX9_wins 45 = .ok (.iaload, 1) := by decide +kernel
theorem dX9_wins_46 : decode cX9_wins 46 = .ok (.iconst 1, 1) := by decide +kernel
theorem dX9_wins_47 : decode cX9_wins 47 = .ok (.if_icmp .gt 18, 3) := by decide +kernel
theorem dX9_wins_50 : decode cX9_wins 50 = .ok (.iload_n 1, 1) := by decide +kernel
theorem dX9_wins_51 : decode cX9_wins 51 = .ok (.aload_n 0, 1) := by decide +kernel
theorem dX9_wins_52 : decode cX9_wins 52 = .ok (.getfield 104, 3) := by decide +kernel
theorem dX9_wins_55 : decode cX9_wins 55 = .ok (.iload 7, 2) := by decide +kernel
theorem dX9_wins_57 : decode cX9_wins 57 = .ok (.iaload, 1) := by decide +kernel
theorem dX9_wins_58 : decode cX9_wins 58 = .ok (.ishr, 1) := by decide +kernel
theorem dX9_wins_59 : decode cX9_wins 59 = .ok (.iconst 1, 1) := by decide +kernel
theorem dX9_wins_60 : decode cX9_wins 60 = .ok (.iand, 1) := by decide +kernel
theorem dX9_wins_61 : decode cX9_wins 61 = .ok (.iconst 1, 1) := by decide +kernel
theorem dX9_wins_62 : decode cX9_wins 62 = .ok (.if_icmp .ne 7, 3) := by decide +kernel
theorem dX9_wins_65 : decode cX9_wins 65 = .ok (.iconst 1, 1) := by decide +kernel
theorem dX9_wins_66 : decode cX9_wins 66 = .ok (.goto 4, 3) := by decide +kernel
theorem dX9_wins_69 : decode cX9_wins 69 = .ok (.iconst 0, 1) := by decide +kernel
theorem dX9_wins_70 : decode cX9_wins 70 = .ok (.istore 8, 2) := by decide +kernel
theorem dX9_wins_72 : decode cX9_wins 72 = .ok (.iload 8, 2) := by decide +kernel
theorem dX9_wins_74 : decode cX9_wins 74 = .ok (.ifCond .ne 6, 3) := by decide +kernel
theorem dX9_wins_77 : decode cX9_wins 77 = .ok (.goto 225, 3) := by decide +kernel
theorem dX9_wins_80 : decode cX9_wins 80 = .ok (.aload_n 0, 1) := by decide +kernel
theorem dX9_wins_81 : decode cX9_wins 81 = .ok (.getfield 98, 3) := by decide +kernel
theorem dX9_wins_84 : decode cX9_wins 84 = .ok (.iload 7, 2) := by decide +kernel
theorem dX9_wins_86 : decode cX9_wins 86 = .ok (.iaload, 1) := by decide +kernel
theorem dX9_wins_87 : decode cX9_wins 87 = .ok (.tableswitch 158 0 2 #[25, 62, 132], 25) := by decide +kernel
theorem dX9_wins_112 : decode cX9_wins 112 = .ok (.aload_n 0, 1) := by decide +kernel
theorem dX9_wins_113 : decode cX9_wins 113 = .ok (.getfield 104, 3) := by decide +kernel
theorem dX9_wins_116 : decode cX9_wins 116 = .ok (.iload 7, 2) := by decide +kernel
theorem dX9_wins_118 : decode cX9_wins 118 = .ok (.iaload, 1) := by decide +kernel
theorem dX9_wins_119 : decode cX9_wins 119 = .ok (.iload 5, 2) := by decide +kernel
theorem dX9_wins_121 : decode cX9_wins 121 = .ok (.if_icmp .ne 22, 3) := by decide +kernel
theorem dX9_wins_124 : decode cX9_wins 124 = .ok (.aload_n 0, 1) := by decide +kernel
theorem dX9_wins_125 : decode cX9_wins 125 = .ok (.iload_n 2, 1) := by decide +kernel
theorem dX9_wins_126 : decode cX9_wins 126 = .ok (.aload_n 0, 1) := by decide +kernel
theorem dX9_wins_127 : decode cX9_wins 127 = .ok (.getfield 101, 3) := by decide +kernel
theorem dX9_wins_130 : decode cX9_wins 130 = .ok (.iload 7, 2) := by decide +kernel
theorem dX9_wins_132 : decode cX9_wins 132 = .ok (.iaload, 1) := by decide +kernel
theorem dX9_wins_133 : decode cX9_wins 133 = .ok (.invokevirtual 230, 3) := by decide +kernel
theorem dX9_wins_136 : decode cX9_wins 136 = .ok (.ifCond .eq 7, 3) := by decide +kernel
theorem dX9_wins_139 : decode cX9_wins 139 = .ok (.iconst 1, 1) := by decide +kernel
theorem dX9_wins_140 : decode cX9_wins 140 = .ok (.goto 4, 3) := by decide +kernel
theorem dX9_wins_143 : decode cX9_wins 143 = .ok (.iconst 0, 1) := by decide +kernel
theorem dX9_wins_144 : decode cX9_wins 144 = .ok (.istore 9, 2) := by decide +kernel
theorem dX9_wins_146 : decode cX9_wins 146 = .ok (.goto 135, 3) := by decide +kernel
theorem dX9_wins_149 : decode cX9_wins 149 = .ok (.iload_n 3, 1) := by decide +kernel
theorem dX9_wins_150 : decode cX9_wins 150 = .ok (.ifCond .lt 63, 3) := by decide +kernel
theorem dX9_wins_153 : decode cX9_wins 153 = .ok (.aload_n 0, 1) := by decide +kernel
theorem dX9_wins_154 : decode cX9_wins 154 = .ok (.getfield 101, 3) := by decide +kernel
theorem dX9_wins_157 : decode cX9_wins 157 = .ok (.iload 7, 2) := by decide +kernel
theorem dX9_wins_159 : decode cX9_wins 159 = .ok (.iaload, 1) := by decide +kernel
theorem dX9_wins_160 : decode cX9_wins 160 = .ok (.iload 5, 2) := by decide +kernel
theorem dX9_wins_162 : decode cX9_wins 162 = .ok (.if_icmp .ne 19, 3) := by decide +kernel
theorem dX9_wins_165 : decode cX9_wins 165 = .ok (.aload_n 0, 1) := by decide +kernel
theorem dX9_wins_166 : decode cX9_wins 166 = .ok (.getfield 104, 3) := by decide +kernel
theorem dX9_wins_169 : decode cX9_wins 169 = .ok (.iload 7, 2) := by decide +kernel
theorem dX9_wins_171 : decode cX9_wins 171 = .ok (.iaload, 1) := by decide +kernel
theorem dX9_wins_172 : decode cX9_wins 172 = .ok (.aload_n 0, 1) := by decide +kernel
theorem dX9_wins_173 : decode cX9_wins 173 = .ok (.getfield 110, 3) := by decide +kernel
theorem dX9_wins_176 : decode cX9_wins 176 = .ok (.iload_n 3, 1) := by decide +kernel
theorem dX9_wins_177 : decode cX9_wins 177 = .ok (.iaload, 1) := by decide +kernel
theorem dX9_wins_178 : decode cX9_wins 178 = .ok (.if_icmp .eq 31, 3) := by decide +kernel
theorem dX9_wins_181 : decode cX9_wins 181 = .ok (.aload_n 0, 1) := by decide +kernel
theorem dX9_wins_182 : decode cX9_wins 182 = .ok (.getfield 104, 3) := by decide +kernel
theorem dX9_wins_185 : decode cX9_wins 185 = .ok (.iload 7, 2) := by decide +kernel
theorem dX9_wins_187 : decode cX9_wins 187 = .ok (.iaload, 1) := by decide +kernel
theorem dX9_wins_188 : decode cX9_wins 188 = .ok (.iload 5, 2) := by decide +kernel
theorem dX9_wins_190 : decode cX9_wins 190 = .ok (.if_icmp .ne 23, 3) := by decide +kernel
theorem dX9_wins_193 : decode cX9_wins 193 = .ok (.aload_n 0, 1) := by decide +kernel
theorem dX9_wins_194 : decode cX9_wins 194 = .ok (.getfield 101, 3) := by decide +kernel
theorem dX9_wins_197 : decode cX9_wins 197 = .ok (.iload 7, 2) := by decide +kernel
theorem dX9_wins_199 : decode cX9_wins 199 = .ok (.iaload, 1) := by decide +kernel
theorem dX9_wins_200 : decode cX9_wins 200 = .ok (.aload_n 0, 1) := by decide +kernel
theorem dX9_wins_201 : decode cX9_wins 201 = .ok (.getfield 110, 3) := by decide +kernel
theorem dX9_wins_204 : decode cX9_wins 204 = .ok (.iload_n 3, 1) := by decide +kernel
theorem dX9_wins_205 : decode cX9_wins 205 = .ok (.iaload, 1) := by decide +kernel
theorem dX9_wins_206 : decode cX9_wins 206 = .ok (.if_icmp .ne 7, 3) := by decide +kernel
theorem dX9_wins_209 : decode cX9_wins 209 = .ok (.iconst 1, 1) := by decide +kernel
theorem dX9_wins_210 : decode cX9_wins 210 = .ok (.goto 4, 3) := by decide +kernel
theorem dX9_wins_213 : decode cX9_wins 213 = .ok (.iconst 0, 1) := by decide +kernel
theorem dX9_wins_214 : decode cX9_wins 214 = .ok (.istore 9, 2) := by decide +kernel
theorem dX9_wins_216 : decode cX9_wins 216 = .ok (.goto 65, 3) := by decide +kernel
theorem dX9_wins_219 : decode cX9_wins 219 = .ok (.aload_n 0, 1) := by decide +kernel
theorem dX9_wins_220 : decode cX9_wins 220 = .ok (.getfield 101, 3) := by decide +kernel
theorem dX9_wins_223 : decode cX9_wins 223 = .ok (.iload 7, 2) := by decide +kernel
theorem dX9_wins_225 : decode cX9_wins 225 = .ok (.iaload, 1) := by decide +kernel
theorem dX9_wins_226 : decode cX9_wins 226 = .ok (.iload 5, 2) := by decide +kernel
theorem dX9_wins_228 : decode cX9_wins 228 = .ok (.if_icmp .ne 11, 3) := by decide +kernel
theorem dX9_wins_231 : decode cX9_wins 231 = .ok (.iload_n 2, 1) := by decide +kernel
theorem dX9_wins_232 : decode cX9_wins 232 = .ok (.ifCond .ne 7, 3) := by decide +kernel
theorem dX9_wins_235 : decode cX9_wins 235 = .ok (.iconst 1, 1) := by decide +kernel
theorem dX9_wins_236 : decode cX9_wins 236 = .ok (.goto 4, 3) := by decide +kernel
theorem dX9_wins_239 : decode cX9_wins 239 = .ok (.iconst 0, 1) := by decide +kernel
theorem dX9_wins_240 : decode cX9_wins 240 = .ok (.istore 9, 2) := by decide +kernel
theorem dX9_wins_242 : decode cX9_wins 242 = .ok (.goto 39, 3) := by decide +kernel
theorem dX9_wins_245 : decode cX9_wins 245 = .ok (.aload_n 0, 1) := by decide +kernel
theorem dX9_wins_246 : decode cX9_wins 246 = .ok (.getfield 101, 3) := by decide +kernel
theorem dX9_wins_249 : decode cX9_wins 249 = .ok (.iload 7, 2) := by decide +kernel
theorem dX9_wins_251 : decode cX9_wins 251 = .ok (.iaload, 1) := by decide +kernel
theorem dX9_wins_252 : decode cX9_wins 252 = .ok (.iload 5, 2) := by decide +kernel
theorem dX9_wins_254 : decode cX9_wins 254 = .ok (.if_icmp .ne 24, 3) := by decide +kernel
theorem dX9_wins_257 : decode cX9_wins 257 = .ok (.iload_n 2, 1) := by decide +kernel
theorem dX9_wins_258 : decode cX9_wins 258 = .ok (.iconst 1, 1) := by decide +kernel
theorem dX9_wins_259 : decode cX9_wins 259 = .ok (.iload 4, 2) := by decide +kernel
theorem dX9_wins_261 : decode cX9_wins 261 = .ok (.ishl, 1) := by decide +kernel
theorem dX9_wins_262 : decode cX9_wins 262 = .ok (.ior, 1) := by decide +kernel
theorem dX9_wins_263 : decode cX9_wins 263 = .ok (.iconst 1, 1) := by decide +kernel
theorem dX9_wins_264 : decode cX9_wins 264 = .ok (.aload_n 0, 1) := by decide +kernel
theorem dX9_wins_265 : decode cX9_wins 265 = .ok (.getfield 233, 3) := by decide +kernel
theorem dX9_wins_268 : decode cX9_wins 268 = .ok (.ishl, 1) := by decide +kernel
theorem dX9_wins_269 : decode cX9_wins 269 = .ok (.iconst 1, 1) := by decide +kernel
theorem dX9_wins_270 : decode cX9_wins 270 = .ok (.isub, 1) := by decide +kernel
theorem dX9_wins_271 : decode cX9_wins 271 = .ok (.if_icmp .ne 7, 3) := by decide +kernel
theorem dX9_wins_274 : decode cX9_wins 274 = .ok (.iconst 1, 1) := by decide +kernel
theorem dX9_wins_275 : decode cX9_wins 275 = .ok (.goto 4, 3) := by decide +kernel
theorem dX9_wins_278 : decode cX9_wins 278 = .ok (.iconst 0, 1) := by decide +kernel
theorem dX9_wins_279 : decode cX9_wins 279 = .ok (.istore 9, 2) := by decide +kernel
theorem dX9_wins_281 : decode cX9_wins 281 = .ok (.iload 6, 2) := by decide +kernel
theorem dX9_wins_283 : decode cX9_wins 283 = .ok (.iload 9, 2) := by decide +kernel
theorem dX9_wins_285 : decode cX9_wins 285 = .ok (.ifCond .eq 13, 3) := by decide +kernel
theorem dX9_wins_288 : decode cX9_wins 288 = .ok (.aload_n 0, 1) := by decide +kernel
theorem dX9_wins_289 : decode cX9_wins 289 = .ok (.getfield 107, 3) := by decide +kernel
theorem dX9_wins_292 : decode cX9_wins 292 = .ok (.iload 7, 2) := by decide +kernel
theorem dX9_wins_294 : decode cX9_wins 294 = .ok (.iaload, 1) := by decide +kernel
theorem dX9_wins_295 : decode cX9_wins 295 = .ok (.goto 4, 3) := by decide +kernel
theorem dX9_wins_298 : decode cX9_wins 298 = .ok (.iconst 0, 1) := by decide +kernel
theorem dX9_wins_299 : decode cX9_wins 299 = .ok (.iadd, 1) := by decide +kernel
theorem dX9_wins_300 : decode cX9_wins 300 = .ok (.istore 6, 2) := by decide +kernel
theorem dX9_wins_302 : decode cX9_wins 302 = .ok (.iinc 7 1, 3) := by decide +kernel
theorem dX9_wins_305 : decode cX9_wins 305 = .ok (.goto (-290), 3) := by decide +kernel
theorem dX9_wins_308 : decode cX9_wins 308 = .ok (.iload 6, 2) := by decide +kernel
theorem dX9_wins_310 : decode cX9_wins 310 = .ok (.ireturn, 1) := by decide +kernel
theorem dX9_stands_0 : decode cX9_stands 0 = .ok (.iconst 0, 1) := by decide +kernel
theorem dX9_stands_1 : decode cX9_stands 1 = .ok (.istore_n 3, 1) := by decide +kernel
theorem dX9_stands_2 : decode cX9_stands 2 = .ok (.iconst 0, 1) := by decide +kernel
theorem dX9_stands_3 : decode cX9_stands 3 = .ok (.istore 4, 2) := by decide +kernel
theorem dX9_stands_5 : decode cX9_stands 5 = .ok (.iload 4, 2) := by decide +kernel
theorem dX9_stands_7 : decode cX9_stands 7 = .ok (.aload_n 0, 1) := by decide +kernel
theorem dX9_stands_8 : decode cX9_stands 8 = .ok (.getfield 233, 3) := by decide +kernel
theorem dX9_stands_11 : decode cX9_stands 11 = .ok (.if_icmp .ge 40, 3) := by decide +kernel
theorem dX9_stands_14 : decode cX9_stands 14 = .ok (.iload_n 3, 1) := by decide +kernel
theorem dX9_stands_15 : decode cX9_stands 15 = .ok (.ifCond .ne 24, 3) := by decide +kernel
theorem dX9_stands_18 : decode cX9_stands 18 = .ok (.iload_n 1, 1) := by decide +kernel
theorem dX9_stands_19 : decode cX9_stands 19 = .ok (.iload 4, 2) := by decide +kernel
theorem dX9_stands_21 : decode cX9_stands 21 = .ok (.ishr, 1) := by decide +kernel
theorem dX9_stands_22 : decode cX9_stands 22 = .ok (.iconst 1, 1) := by decide +kernel
theorem dX9_stands_23 : decode cX9_stands 23 = .ok (.iand, 1) := by decide +kernel
theorem dX9_stands_24 : decode cX9_stands 24 = .ok (.iconst 1, 1) := by decide +kernel
theorem dX9_stands_25 : decode cX9_stands 25 = .ok (.if_icmp .ne 18, 3) := by decide +kernel
theorem dX9_stands_28 : decode cX9_stands 28 = .ok (.aload_n 0, 1) := by decide +kernel
theorem dX9_stands_29 : decode cX9_stands 29 = .ok (.getfield 110, 3) := by decide +kernel
theorem dX9_stands_32 : decode cX9_stands 32 = .ok (.iload 4, 2) := by decide +kernel
theorem dX9_stands_34 : decode cX9_stands 34 = .ok (.iaload, 1) := by decide +kernel
theorem dX9_stands_35 : decode cX9_stands 35 = .ok (.iload_n 2, 1) := by decide +kernel
theorem dX9_stands_36 : decode cX9_stands 36 = .ok (.if_icmp .ne 7, 3) := by decide +kernel
theorem dX9_stands_39 : decode cX9_stands 39 = .ok (.iconst 1, 1) := by decide +kernel
theorem dX9_stands_40 : decode cX9_stands 40 = .ok (.goto 4, 3) := by decide +kernel
theorem dX9_stands_43 : decode cX9_stands 43 = .ok (.iconst 0, 1) := by decide +kernel
theorem dX9_stands_44 : decode cX9_stands 44 = .ok (.istore_n 3, 1) := by decide +kernel
theorem dX9_stands_45 : decode cX9_stands 45 = .ok (.iinc 4 1, 3) := by decide +kernel
theorem dX9_stands_48 : decode cX9_stands 48 = .ok (.goto (-43), 3) := by decide +kernel
theorem dX9_stands_51 : decode cX9_stands 51 = .ok (.iload_n 3, 1) := by decide +kernel
