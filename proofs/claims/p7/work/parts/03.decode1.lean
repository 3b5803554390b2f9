theorem dX3_weighStates_49 : decode cX3_weighStates 49 = .ok (.iconst 0, 1) := by decide +kernel
theorem dX3_weighStates_50 : decode cX3_weighStates 50 = .ok (.goto 9, 3) := by decide +kernel
theorem dX3_weighStates_53 : decode cX3_weighStates 53 = .ok (.aload_n 0, 1) := by decide +kernel
theorem dX3_weighStates_54 : decode cX3_weighStates 54 = .ok (.iload_n 1, 1) := by decide +kernel
theorem dX3_weighStates_55 : decode cX3_weighStates 55 = .ok (.iload_n 3, 1) := by decide +kernel
theorem dX3_weighStates_56 : decode cX3_weighStates 56 = .ok (.invokevirtual 68, 3) := by decide +kernel
theorem dX3_weighStates_59 : decode cX3_weighStates 59 = .ok (.iastore, 1) := by decide +kernel
theorem dX3_weighStates_60 : decode cX3_weighStates 60 = .ok (.iload_n 3, 1) := by decide +kernel
theorem dX3_weighStates_61 : decode cX3_weighStates 61 = .ok (.ifCond .ne 7, 3) := by decide +kernel
theorem dX3_weighStates_64 : decode cX3_weighStates 64 = .ok (.iconst (-1), 1) := by decide +kernel
theorem dX3_weighStates_65 : decode cX3_weighStates 65 = .ok (.goto 8, 3) := by decide +kernel
theorem dX3_weighStates_68 : decode cX3_weighStates 68 = .ok (.iload_n 3, 1) := by decide +kernel
theorem dX3_weighStates_69 : decode cX3_weighStates 69 = .ok (.iconst 1, 1) := by decide +kernel
theorem dX3_weighStates_70 : decode cX3_weighStates 70 = .ok (.isub, 1) := by decide +kernel
theorem dX3_weighStates_71 : decode cX3_weighStates 71 = .ok (.iload_n 2, 1) := by decide +kernel
theorem dX3_weighStates_72 : decode cX3_weighStates 72 = .ok (.iand, 1) := by decide +kernel
theorem dX3_weighStates_73 : decode cX3_weighStates 73 = .ok (.istore_n 3, 1) := by decide +kernel
theorem dX3_weighStates_74 : decode cX3_weighStates 74 = .ok (.goto (-56), 3) := by decide +kernel
theorem dX3_weighStates_77 : decode cX3_weighStates 77 = .ok (.iinc 1 (-1), 3) := by decide +kernel
theorem dX3_weighStates_80 : decode cX3_weighStates 80 = .ok (.goto (-75), 3) := by decide +kernel
theorem dX3_weighStates_83 : decode cX3_weighStates 83 = .ok (.return_, 1) := by decide +kernel
theorem dX3_weighState_0 : decode cX3_weighState 0 = .ok (.aload_n 0, 1) := by decide +kernel
theorem dX3_weighState_1 : decode cX3_weighState 1 = .ok (.getfield 18, 3) := by decide +kernel
theorem dX3_weighState_4 : decode cX3_weighState 4 = .ok (.iload_n 1, 1) := by decide +kernel
theorem dX3_weighState_5 : decode cX3_weighState 5 = .ok (.iconst 1, 1) := by decide +kernel
theorem dX3_weighState_6 : decode cX3_weighState 6 = .ok (.iadd, 1) := by decide +kernel
theorem dX3_weighState_7 : decode cX3_weighState 7 = .ok (.sipush 1024, 3) := by decide +kernel
theorem dX3_weighState_10 : decode cX3_weighState 10 = .ok (.imul, 1) := by decide +kernel
theorem dX3_weighState_11 : decode cX3_weighState 11 = .ok (.iload_n 2, 1) := by decide +kernel
theorem dX3_weighState_12 : decode cX3_weighState 12 = .ok (.iadd, 1) := by decide +kernel
theorem dX3_weighState_13 : decode cX3_weighState 13 = .ok (.iaload, 1) := by decide +kernel
theorem dX3_weighState_14 : decode cX3_weighState 14 = .ok (.istore_n 3, 1) := by decide +kernel
theorem dX3_weighState_15 : decode cX3_weighState 15 = .ok (.iconst 0, 1) := by decide +kernel
theorem dX3_weighState_16 : decode cX3_weighState 16 = .ok (.istore 4, 2) := by decide +kernel
theorem dX3_weighState_18 : decode cX3_weighState 18 = .ok (.iload 4, 2) := by decide +kernel
theorem dX3_weighState_20 : decode cX3_weighState 20 = .ok (.aload_n 0, 1) := by decide +kernel
theorem dX3_weighState_21 : decode cX3_weighState 21 = .ok (.getfield 31, 3) := by decide +kernel
theorem dX3_weighState_24 : decode cX3_weighState 24 = .ok (.if_icmp .ge 22, 3) := by decide +kernel
theorem dX3_weighState_27 : decode cX3_weighState 27 = .ok (.iload_n 3, 1) := by decide +kernel
theorem dX3_weighState_28 : decode cX3_weighState 28 = .ok (.aload_n 0, 1) := by decide +kernel
theorem dX3_weighState_29 : decode cX3_weighState 29 = .ok (.iload_n 1, 1) := by decide +kernel
theorem dX3_weighState_30 : decode cX3_weighState 30 = .ok (.iload_n 2, 1) := by decide +kernel
theorem dX3_weighState_31 : decode cX3_weighState 31 = .ok (.iload 4, 2) := by decide +kernel
theorem dX3_weighState_33 : decode cX3_weighState 33 = .ok (.invokevirtual 71, 3) := by decide +kernel
theorem dX3_weighState_36 : decode cX3_weighState 36 = .ok (.invokestatic 75, 3) := by decide +kernel
theorem dX3_weighState_39 : decode cX3_weighState 39 = .ok (.istore_n 3, 1) := by decide +kernel
theorem dX3_weighState_40 : decode cX3_weighState 40 = .ok (.iinc 4 1, 3) := by decide +kernel
theorem dX3_weighState_43 : decode cX3_weighState 43 = .ok (.goto (-25), 3) := by decide +kernel
theorem dX3_weighState_46 : decode cX3_weighState 46 = .ok (.iload_n 3, 1) := by decide +kernel
theorem dX3_weighState_47 : decode cX3_weighState 47 = .ok (.ireturn, 1) := by decide +kernel
theorem dX3_valueOf_0 : decode cX3_valueOf 0 = .ok (.aload_n 0, 1) := by decide +kernel
theorem dX3_valueOf_1 : decode cX3_valueOf 1 = .ok (.getfield 9, 3) := by decide +kernel
theorem dX3_valueOf_4 : decode cX3_valueOf 4 = .ok (.iload_n 1, 1) := by decide +kernel
theorem dX3_valueOf_5 : decode cX3_valueOf 5 = .ok (.bipush 10, 2) := by decide +kernel
theorem dX3_valueOf_7 : decode cX3_valueOf 7 = .ok (.imul, 1) := by decide +kernel
theorem dX3_valueOf_8 : decode cX3_valueOf 8 = .ok (.iload_n 3, 1) := by decide +kernel
theorem dX3_valueOf_9 : decode cX3_valueOf 9 = .ok (.iadd, 1) := by decide +kernel
theorem dX3_valueOf_10 : decode cX3_valueOf 10 = .ok (.iaload, 1) := by decide +kernel
theorem dX3_valueOf_11 : decode cX3_valueOf 11 = .ok (.istore 4, 2) := by decide +kernel
theorem dX3_valueOf_13 : decode cX3_valueOf 13 = .ok (.iload 4, 2) := by decide +kernel
theorem dX3_valueOf_15 : decode cX3_valueOf 15 = .ok (.ifCond .eq 11, 3) := by decide +kernel
theorem dX3_valueOf_18 : decode cX3_valueOf 18 = .ok (.iload_n 2, 1) := by decide +kernel
theorem dX3_valueOf_19 : decode cX3_valueOf 19 = .ok (.iload_n 3, 1) := by decide +kernel
theorem dX3_valueOf_20 : decode cX3_valueOf 20 = .ok (.ishr, 1) := by decide +kernel
theorem dX3_valueOf_21 : decode cX3_valueOf 21 = .ok (.iconst 1, 1) := by decide +kernel
theorem dX3_valueOf_22 : decode cX3_valueOf 22 = .ok (.iand, 1) := by decide +kernel
theorem dX3_valueOf_23 : decode cX3_valueOf 23 = .ok (.ifCond .eq 5, 3) := by decide +kernel
theorem dX3_valueOf_26 : decode cX3_valueOf 26 = .ok (.iconst (-1), 1) := by decide +kernel
theorem dX3_valueOf_27 : decode cX3_valueOf 27 = .ok (.ireturn, 1) := by decide +kernel
theorem dX3_valueOf_28 : decode cX3_valueOf 28 = .ok (.iload 4, 2) := by decide +kernel
theorem dX3_valueOf_30 : decode cX3_valueOf 30 = .ok (.aload_n 0, 1) := by decide +kernel
theorem dX3_valueOf_31 : decode cX3_valueOf 31 = .ok (.getfield 18, 3) := by decide +kernel
theorem dX3_valueOf_34 : decode cX3_valueOf 34 = .ok (.iload_n 1, 1) := by decide +kernel
theorem dX3_valueOf_35 : decode cX3_valueOf 35 = .ok (.iconst 1, 1) := by decide +kernel
theorem dX3_valueOf_36 : decode cX3_valueOf 36 = .ok (.iadd, 1) := by decide +kernel
theorem dX3_valueOf_37 : decode cX3_valueOf 37 = .ok (.sipush 1024, 3) := by decide +kernel
theorem dX3_valueOf_40 : decode cX3_valueOf 40 = .ok (.imul, 1) := by decide +kernel
theorem dX3_valueOf_41 : decode cX3_valueOf 41 = .ok (.iload_n 2, 1) := by decide +kernel
theorem dX3_valueOf_42 : decode cX3_valueOf 42 = .ok (.iconst 1, 1) := by decide +kernel
theorem dX3_valueOf_43 : decode cX3_valueOf 43 = .ok (.iload_n 3, 1) := by decide +kernel
theorem dX3_valueOf_44 : decode cX3_valueOf 44 = .ok (.ishl, 1) := by decide +kernel
theorem dX3_valueOf_45 : decode cX3_valueOf 45 = .ok (.ior, 1) := by decide +kernel
theorem dX3_valueOf_46 : decode cX3_valueOf 46 = .ok (.iadd, 1) := by decide +kernel
theorem dX3_valueOf_47 : decode cX3_valueOf 47 = .ok (.iaload, 1) := by decide +kernel
theorem dX3_valueOf_48 : decode cX3_valueOf 48 = .ok (.iadd, 1) := by decide +kernel
theorem dX3_valueOf_49 : decode cX3_valueOf 49 = .ok (.ireturn, 1) := by decide +kernel
theorem dX3_tellFirst_0 : decode cX3_tellFirst 0 = .ok (.iconst 0, 1) := by decide +kernel
theorem dX3_tellFirst_1 : decode cX3_tellFirst 1 = .ok (.istore_n 2, 1) := by decide +kernel
theorem dX3_tellFirst_2 : decode cX3_tellFirst 2 = .ok (.iconst 0, 1) := by decide +kernel
theorem dX3_tellFirst_3 : decode cX3_tellFirst 3 = .ok (.istore_n 3, 1) := by decide +kernel
theorem dX3_tellFirst_4 : decode cX3_tellFirst 4 = .ok (.iload_n 3, 1) := by decide +kernel
theorem dX3_tellFirst_5 : decode cX3_tellFirst 5 = .ok (.aload_n 0, 1) := by decide +kernel
theorem dX3_tellFirst_6 : decode cX3_tellFirst 6 = .ok (.getfield 27, 3) := by decide +kernel
theorem dX3_tellFirst_9 : decode cX3_tellFirst 9 = .ok (.if_icmp .ge 87, 3) := by decide +kernel
theorem dX3_tellFirst_12 : decode cX3_tellFirst 12 = .ok (.bipush (-9), 2) := by decide +kernel
theorem dX3_tellFirst_14 : decode cX3_tellFirst 14 = .ok (.istore 4, 2) := by decide +kernel
theorem dX3_tellFirst_16 : decode cX3_tellFirst 16 = .ok (.iconst 0, 1) := by decide +kernel
theorem dX3_tellFirst_17 : decode cX3_tellFirst 17 = .ok (.istore 5, 2) := by decide +kernel
theorem dX3_tellFirst_19 : decode cX3_tellFirst 19 = .ok (.iload 5, 2) := by decide +kernel
theorem dX3_tellFirst_21 : decode cX3_tellFirst 21 = .ok (.aload_n 0, 1) := by decide +kernel
theorem dX3_tellFirst_22 : decode cX3_tellFirst 22 = .ok (.getfield 31, 3) := by decide +kernel
theorem dX3_tellFirst_25 : decode cX3_tellFirst 25 = .ok (.if_icmp .ge 43, 3) := by decide +kernel
theorem dX3_tellFirst_28 : decode cX3_tellFirst 28 = .ok (.iload 4, 2) := by decide +kernel
theorem dX3_tellFirst_30 : decode cX3_tellFirst 30 = .ok (.bipush (-9), 2) := by decide +kernel
theorem dX3_tellFirst_32 : decode cX3_tellFirst 32 = .ok (.if_icmp .ne 36, 3) := by decide +kernel
theorem dX3_tellFirst_35 : decode cX3_tellFirst 35 = .ok (.aload_n 0, 1) := by decide +kernel
theorem dX3_tellFirst_36 : decode cX3_tellFirst 36 = .ok (.iload_n 3, 1) := by decide +kernel
theorem dX3_tellFirst_37 : decode cX3_tellFirst 37 = .ok (.iload_n 2, 1) := by decide +kernel
theorem dX3_tellFirst_38 : decode cX3_tellFirst 38 = .ok (.iload 5, 2) := by decide +kernel
theorem dX3_tellFirst_40 : decode cX3_tellFirst 40 = .ok (.invokevirtual 71, 3) := by decide +kernel
theorem dX3_tellFirst_43 : decode cX3_tellFirst 43 = .ok (.aload_n 0, 1) := by decide +kernel
theorem dX3_tellFirst_44 : decode cX3_tellFirst 44 = .ok (.getfield 18, 3) := by decide +kernel
theorem dX3_tellFirst_47 : decode cX3_tellFirst 47 = .ok (.iload_n 3, 1) := by decide +kernel
theorem dX3_tellFirst_48 : decode cX3_tellFirst 48 = .ok (.sipush 1024, 3) := by decide +kernel
theorem dX3_tellFirst_51 : decode cX3_tellFirst 51 = .ok (.imul, 1) := by decide +kernel
theorem dX3_tellFirst_52 : decode cX3_tellFirst 52 = .ok (.iload_n 2, 1) := by decide +kernel
theorem dX3_tellFirst_53 : decode cX3_tellFirst 53 = .ok (.iadd, 1) := by decide +kernel
theorem dX3_tellFirst_54 : decode cX3_tellFirst 54 = .ok (.iaload, 1) := by decide +kernel
theorem dX3_tellFirst_55 : decode cX3_tellFirst 55 = .ok (.if_icmp .ne 7, 3) := by decide +kernel
theorem dX3_tellFirst_58 : decode cX3_tellFirst 58 = .ok (.iload 5, 2) := by decide +kernel
theorem dX3_tellFirst_60 : decode cX3_tellFirst 60 = .ok (.istore 4, 2) := by decide +kernel
theorem dX3_tellFirst_62 : decode cX3_tellFirst 62 = .ok (.iinc 5 1, 3) := by decide +kernel
theorem dX3_tellFirst_65 : decode cX3_tellFirst 65 = .ok (.goto (-46), 3) := by decide +kernel
theorem dX3_tellFirst_68 : decode cX3_tellFirst 68 = .ok (.aload_n 1, 1) := by decide +kernel
theorem dX3_tellFirst_69 : decode cX3_tellFirst 69 = .ok (.getfield 80, 3) := by decide +kernel
theorem dX3_tellFirst_72 : decode cX3_tellFirst 72 = .ok (.iload_n 3, 1) := by decide +kernel
theorem dX3_tellFirst_73 : decode cX3_tellFirst 73 = .ok (.iload 4, 2) := by decide +kernel
theorem dX3_tellFirst_75 : decode cX3_tellFirst 75 = .ok (.iastore, 1) := by decide +kernel
theorem dX3_tellFirst_76 : decode cX3_tellFirst 76 = .ok (.iload 4, 2) := by decide +kernel
theorem dX3_tellFirst_78 : decode cX3_tellFirst 78 = .ok (.bipush (-9), 2) := by decide +kernel
theorem dX3_tellFirst_80 : decode cX3_tellFirst 80 = .ok (.if_icmp .eq 10, 3) := by decide +kernel
theorem dX3_tellFirst_83 : decode cX3_tellFirst 83 = .ok (.iload_n 2, 1) := by decide +kernel
theorem dX3_tellFirst_84 : decode cX3_tellFirst 84 = .ok (.iconst 1, 1) := by decide +kernel
theorem dX3_tellFirst_85 : decode cX3_tellFirst 85 = .ok (.iload 4, 2) := by decide +kernel
theorem dX3_tellFirst_87 : decode cX3_tellFirst 87 = .ok (.ishl, 1) := by decide +kernel
theorem dX3_tellFirst_88 : decode cX3_tellFirst 88 = .ok (.ior, 1) := by decide +kernel
theorem dX3_tellFirst_89 : decode cX3_tellFirst 89 = .ok (.istore_n 2, 1) := by decide +kernel
theorem dX3_tellFirst_90 : decode cX3_tellFirst 90 = .ok (.iinc 3 1, 3) := by decide +kernel
theorem dX3_tellFirst_93 : decode cX3_tellFirst 93 = .ok (.goto (-89), 3) := by decide +kernel
theorem dX3_tellFirst_96 : decode cX3_tellFirst 96 = .ok (.return_, 1) := by decide +kernel
theorem dX3_tellWays_0 : decode cX3_tellWays 0 = .ok (.aload_n 0, 1) := by decide +kernel
theorem dX3_tellWays_1 : decode cX3_tellWays 1 = .ok (.getfield 21, 3) := by decide +kernel
theorem dX3_tellWays_4 : decode cX3_tellWays 4 = .ok (.iconst 0, 1) := by decide +kernel
theorem dX3_tellWays_5 : decode cX3_tellWays 5 = .ok (.iconst 1, 1) := by decide +kernel
theorem dX3_tellWays_6 : decode cX3_tellWays 6 = .ok (.iastore, 1) := by decide +kernel
theorem dX3_tellWays_7 : decode cX3_tellWays 7 = .ok (.iconst 0, 1) := by decide +kernel
theorem dX3_tellWays_8 : decode cX3_tellWays 8 = .ok (.istore_n 2, 1) := by decide +kernel
theorem dX3_tellWays_9 : decode cX3_tellWays 9 = .ok (.iload_n 2, 1) := by decide +kernel
theorem dX3_tellWays_10 : decode cX3_tellWays 10 = .ok (.aload_n 0, 1) := by decide +kernel
theorem dX3_tellWays_11 : decode cX3_tellWays 11 = .ok (.getfield 27, 3) := by decide +kernel
theorem dX3_tellWays_14 : decode cX3_tellWays 14 = .ok (.if_icmp .ge 123, 3) := by decide +kernel
theorem dX3_tellWays_17 : decode cX3_tellWays 17 = .ok (.iconst 0, 1) := by decide +kernel
theorem dX3_tellWays_18 : decode cX3_tellWays 18 = .ok (.istore_n 3, 1) := by decide +kernel
theorem dX3_tellWays_19 : decode cX3_tellWays 19 = .ok (.aload_n 0, 1) := by decide +kernel
theorem dX3_tellWays_20 : decode cX3_tellWays 20 = .ok (.getfield 15, 3) := by decide +kernel
theorem dX3_tellWays_23 : decode cX3_tellWays 23 = .ok (.iload_n 2, 1) := by decide +kernel
theorem dX3_tellWays_24 : decode cX3_tellWays 24 = .ok (.iaload, 1) := by decide +kernel
theorem dX3_tellWays_25 : decode cX3_tellWays 25 = .ok (.istore 4, 2) := by decide +kernel
theorem dX3_tellWays_27 : decode cX3_tellWays 27 = .ok (.iload 4, 2) := by decide +kernel
theorem dX3_tellWays_29 : decode cX3_tellWays 29 = .ok (.istore 5, 2) := by decide +kernel
theorem dX3_tellWays_31 : decode cX3_tellWays 31 = .ok (.iload 5, 2) := by decide +kernel
theorem dX3_tellWays_33 : decode cX3_tellWays 33 = .ok (.ifCond .lt 52, 3) := by decide +kernel
theorem dX3_tellWays_36 : decode cX3_tellWays 36 = .ok (.aload_n 0, 1) := by decide +kernel
theorem dX3_tellWays_37 : decode cX3_tellWays 37 = .ok (.getfield 21, 3) := by decide +kernel
theorem dX3_tellWays_40 : decode cX3_tellWays 40 = .ok (.iload 5, 2) := by decide +kernel
theorem dX3_tellWays_42 : decode cX3_tellWays 42 = .ok (.iaload, 1) := by decide +kernel
theorem dX3_tellWays_43 : decode cX3_tellWays 43 = .ok (.ifCond .le 21, 3) := by decide +kernel
theorem dX3_tellWays_46 : decode cX3_tellWays 46 = .ok (.iload_n 3, 1) := by decide +kernel
theorem dX3_tellWays_47 : decode cX3_tellWays 47 = .ok (.aload_n 0, 1) := by decide +kernel
theorem dX3_tellWays_48 : decode cX3_tellWays 48 = .ok (.iload_n 2, 1) := by decide +kernel
theorem dX3_tellWays_49 : decode cX3_tellWays 49 = .ok (.iload 5, 2) := by decide +kernel
theorem dX3_tellWays_51 : decode cX3_tellWays 51 = .ok (.invokevirtual 83, 3) := by decide +kernel
theorem dX3_tellWays_54 : decode cX3_tellWays 54 = .ok (.ior, 1) := by decide +kernel
theorem dX3_tellWays_55 : decode cX3_tellWays 55 = .ok (.istore_n 3, 1) := by decide +kernel
theorem dX3_tellWays_56 : decode cX3_tellWays 56 = .ok (.aload_n 0, 1) := by decide +kernel
theorem dX3_tellWays_57 : decode cX3_tellWays 57 = .ok (.getfield 21, 3) := by decide +kernel
theorem dX3_tellWays_60 : decode cX3_tellWays 60 = .ok (.iload 5, 2) := by decide +kernel
theorem dX3_tellWays_62 : decode cX3_tellWays 62 = .ok (.iconst 0, 1) := by decide +kernel
theorem dX3_tellWays_63 : decode cX3_tellWays 63 = .ok (.iastore, 1) := by decide +kernel
theorem dX3_tellWays_64 : decode cX3_tellWays 64 = .ok (.iload 5, 2) := by decide +kernel
theorem dX3_tellWays_66 : decode cX3_tellWays 66 = .ok (.ifCond .ne 7, 3) := by decide +kernel
theorem dX3_tellWays_69 : decode cX3_tellWays 69 = .ok (.iconst (-1), 1) := by decide +kernel
theorem dX3_tellWays_70 : decode cX3_tellWays 70 = .ok (.goto 10, 3) := by decide +kernel
theorem dX3_tellWays_73 : decode cX3_tellWays 73 = .ok (.iload 5, 2) := by decide +kernel
theorem dX3_tellWays_75 : decode cX3_tellWays 75 = .ok (.iconst 1, 1) := by decide +kernel
theorem dX3_tellWays_76 : decode cX3_tellWays 76 = .ok (.isub, 1) := by decide +kernel
theorem dX3_tellWays_77 : decode cX3_tellWays 77 = .ok (.iload 4, 2) := by decide +kernel
theorem dX3_tellWays_79 : decode cX3_tellWays 79 = .ok (.iand, 1) := by decide +kernel
theorem dX3_tellWays_80 : decode cX3_tellWays 80 = .ok (.istore 5, 2) := by decide +kernel
theorem dX3_tellWays_82 : decode cX3_tellWays 82 = .ok (.goto (-51), 3) := by decide +kernel
theorem dX3_tellWays_85 : decode cX3_tellWays 85 = .ok (.aload_n 1, 1) := by decide +kernel
theorem dX3_tellWays_86 : decode cX3_tellWays 86 = .ok (.getfield 86, 3) := by decide +kernel
theorem dX3_tellWays_89 : decode cX3_tellWays 89 = .ok (.iload_n 2, 1) := by decide +kernel
theorem dX3_tellWays_90 : decode cX3_tellWays 90 = .ok (.iload_n 3, 1) := by decide +kernel
theorem dX3_tellWays_91 : decode cX3_tellWays 91 = .ok (.invokestatic 62, 3) := by decide +kernel
theorem dX3_tellWays_94 : decode cX3_tellWays 94 = .ok (.iconst 1, 1) := by decide +kernel
theorem dX3_tellWays_95 : decode cX3_tellWays 95 = .ok (.if_icmp .ne 14, 3) := by decide +kernel
theorem dX3_tellWays_98 : decode cX3_tellWays 98 = .ok (.iload_n 3, 1) := by decide +kernel
theorem dX3_tellWays_99 : decode cX3_tellWays 99 = .ok (.sipush 1024, 3) := by decide +kernel
theorem dX3_tellWays_102 : decode cX3_tellWays 102 = .ok (.if_icmp .ge 7, 3) := by decide +kernel
theorem dX3_tellWays_105 : decode cX3_tellWays 105 = .ok (.iconst 1, 1) := by decide +kernel
theorem dX3_tellWays_106 : decode cX3_tellWays 106 = .ok (.goto 4, 3) := by decide +kernel
theorem dX3_tellWays_109 : decode cX3_tellWays 109 = .ok (.iconst 0, 1) := by decide +kernel
theorem dX3_tellWays_110 : decode cX3_tellWays 110 = .ok (.bastore, 1) := by decide +kernel
theorem dX3_tellWays_111 : decode cX3_tellWays 111 = .ok (.aload_n 0, 1) := by decide +kernel
theorem dX3_tellWays_112 : decode cX3_tellWays 112 = .ok (.getfield 21, 3) := by decide +kernel
theorem dX3_tellWays_115 : decode cX3_tellWays 115 = .ok (.astore 5, 2) := by decide +kernel
theorem dX3_tellWays_117 : decode cX3_tellWays 117 = .ok (.aload_n 0, 1) := by decide +kernel
theorem dX3_tellWays_118 : decode cX3_tellWays 118 = .ok (.aload_n 0, 1) := by decide +kernel
theorem dX3_tellWays_119 : decode cX3_tellWays 119 = .ok (.getfield 24, 3) := by decide +kernel
theorem dX3_tellWays_122 : decode cX3_tellWays 122 = .ok (.putfield 21, 3) := by decide +kernel
theorem dX3_tellWays_125 : decode cX3_tellWays 125 = .ok (.aload_n 0, 1) := by decide +kernel
theorem dX3_tellWays_126 : decode cX3_tellWays 126 = .ok (.aload 5, 2) := by decide +kernel
theorem dX3_tellWays_128 : decode cX3_tellWays 128 = .ok (.putfield 24, 3) := by decide +kernel
theorem dX3_tellWays_131 : decode cX3_tellWays 131 = .ok (.iinc 2 1, 3) := by decide +kernel
theorem dX3_tellWays_134 : decode cX3_tellWays 134 = .ok (.goto (-125), 3) := by decide +kernel
theorem dX3_tellWays_137 : decode cX3_tellWays 137 = .ok (.aload_n 1, 1) := by decide +kernel
theorem dX3_tellWays_138 : decode cX3_tellWays 138 = .ok (.aload_n 0, 1) := by decide +kernel
theorem dX3_tellWays_139 : decode cX3_tellWays 139 = .ok (.aload_n 0, 1) := by decide +kernel
theorem dX3_tellWays_140 : decode cX3_tellWays 140 = .ok (.getfield 15, 3) := by decide +kernel
theorem dX3_tellWays_143 : decode cX3_tellWays 143 = .ok (.aload_n 0, 1) := by decide +kernel
theorem dX3_tellWays_144 : decode cX3_tellWays 144 = .ok (.getfield 27, 3) := by decide +kernel
theorem dX3_tellWays_147 : decode cX3_tellWays 147 = .ok (.iaload, 1) := by decide +kernel
theorem dX3_tellWays_148 : decode cX3_tellWays 148 = .ok (.invokevirtual 90, 3) := by decide +kernel
theorem dX3_tellWays_151 : decode cX3_tellWays 151 = .ok (.putfield 93, 3) := by decide +kernel
theorem dX3_tellWays_154 : decode cX3_tellWays 154 = .ok (.return_, 1) := by decide +kernel
theorem dX3_passOn_0 : decode cX3_passOn 0 = .ok (.aload_n 0, 1) := by decide +kernel
theorem dX3_passOn_1 : decode cX3_passOn 1 = .ok (.getfield 18, 3) := by decide +kernel
theorem dX3_passOn_4 : decode cX3_passOn 4 = .ok (.iload_n 1, 1) := by decide +kernel
theorem dX3_passOn_5 : decode cX3_passOn 5 = .ok (.sipush 1024, 3) := by decide +kernel
theorem dX3_passOn_8 : decode cX3_passOn 8 = .ok (.imul, 1) := by decide +kernel
theorem dX3_passOn_9 : decode cX3_passOn 9 = .ok (.iload_n 2, 1) := by decide +kernel
theorem dX3_passOn_10 : decode cX3_passOn 10 = .ok (.iadd, 1) := by decide +kernel
theorem dX3_passOn_11 : decode cX3_passOn 11 = .ok (.iaload, 1) := by decide +kernel
theorem dX3_passOn_12 : decode cX3_passOn 12 = .ok (.istore_n 3, 1) := by decide +kernel
theorem dX3_passOn_13 : decode cX3_passOn 13 = .ok (.iconst 0, 1) := by decide +kernel
theorem dX3_passOn_14 : decode cX3_passOn 14 = .ok (.istore 4, 2) := by decide +kernel
theorem dX3_passOn_16 : decode cX3_passOn 16 = .ok (.iconst 0, 1) := by decide +kernel
theorem dX3_passOn_17 : decode cX3_passOn 17 = .ok (.istore 5, 2) := by decide +kernel
theorem dX3_passOn_19 : decode cX3_passOn 19 = .ok (.iload 5, 2) := by decide +kernel
theorem dX3_passOn_21 : decode cX3_passOn 21 = .ok (.aload_n 0, 1) := by decide +kernel
theorem dX3_passOn_22 : decode cX3_passOn 22 = .ok (.getfield 31, 3) := by decide +kernel
theorem dX3_passOn_25 : decode cX3_passOn 25 = .ok (.if_icmp .ge 46, 3) := by decide +kernel
theorem dX3_passOn_28 : decode cX3_passOn 28 = .ok (.aload_n 0, 1) := by decide +kernel
theorem dX3_passOn_29 : decode cX3_passOn 29 = .ok (.iload_n 1, 1) := by decide +kernel
theorem dX3_passOn_30 : decode cX3_passOn 30 = .ok (.iload_n 2, 1) := by decide +kernel
theorem dX3_passOn_31 : decode cX3_passOn 31 = .ok (.iload 5, 2) := by decide +kernel
theorem dX3_passOn_33 : decode cX3_passOn 33 = .ok (.invokevirtual 71, 3) := by decide +kernel
theorem dX3_passOn_36 : decode cX3_passOn 36 = .ok (.iload_n 3, 1) := by decide +kernel
theorem dX3_passOn_37 : decode cX3_passOn 37 = .ok (.if_icmp .ne 28, 3) := by decide +kernel
theorem dX3_passOn_40 : decode cX3_passOn 40 = .ok (.aload_n 0, 1) := by decide +kernel
theorem dX3_passOn_41 : decode cX3_passOn 41 = .ok (.iload_n 2, 1) := by decide +kernel
theorem dX3_passOn_42 : decode cX3_passOn 42 = .ok (.iconst 1, 1) := by decide +kernel
theorem dX3_passOn_43 : decode cX3_passOn 43 = .ok (.iload 5, 2) := by decide +kernel
theorem dX3_passOn_45 : decode cX3_passOn 45 = .ok (.ishl, 1) := by decide +kernel
theorem dX3_passOn_46 : decode cX3_passOn 46 = .ok (.ior, 1) := by decide +kernel
theorem dX3_passOn_47 : decode cX3_passOn 47 = .ok (.aload_n 0, 1) := by decide +kernel
theorem dX3_passOn_48 : decode cX3_passOn 48 = .ok (.getfield 21, 3) := by decide +kernel
theorem dX3_passOn_51 : decode cX3_passOn 51 = .ok (.iload_n 2, 1) := by decide +kernel
theorem dX3_passOn_52 : decode cX3_passOn 52 = .ok (.iaload, 1) := by decide +kernel
theorem dX3_passOn_53 : decode cX3_passOn 53 = .ok (.invokevirtual 95, 3) := by decide +kernel
theorem dX3_passOn_56 : decode cX3_passOn 56 = .ok (.iload 4, 2) := by decide +kernel
theorem dX3_passOn_58 : decode cX3_passOn 58 = .ok (.iconst 1, 1) := by decide +kernel
theorem dX3_passOn_59 : decode cX3_passOn 59 = .ok (.iload 5, 2) := by decide +kernel
theorem dX3_passOn_61 : decode cX3_passOn 61 = .ok (.ishl, 1) := by decide +kernel
theorem dX3_passOn_62 : decode cX3_passOn 62 = .ok (.ior, 1) := by decide +kernel
theorem dX3_passOn_63 : decode cX3_passOn 63 = .ok (.istore 4, 2) := by decide +kernel
theorem dX3_passOn_65 : decode cX3_passOn 65 = .ok (.iinc 5 1, 3) := by decide +kernel
theorem dX3_passOn_68 : decode cX3_passOn 68 = .ok (.goto (-49), 3) := by decide +kernel
theorem dX3_passOn_71 : decode cX3_passOn 71 = .ok (.aload_n 0, 1) := by decide +kernel
theorem dX3_passOn_72 : decode cX3_passOn 72 = .ok (.getfield 18, 3) := by decide +kernel
theorem dX3_passOn_75 : decode cX3_passOn 75 = .ok (.iload_n 1, 1) := by decide +kernel
theorem dX3_passOn_76 : decode cX3_passOn 76 = .ok (.iconst 1, 1) := by decide +kernel
theorem dX3_passOn_77 : decode cX3_passOn 77 = .ok (.iadd, 1) := by decide +kernel
theorem dX3_passOn_78 : decode cX3_passOn 78 = .ok (.sipush 1024, 3) := by decide +kernel
theorem dX3_passOn_81 : decode cX3_passOn 81 = .ok (.imul, 1) := by decide +kernel
theorem dX3_passOn_82 : decode cX3_passOn 82 = .ok (.iload_n 2, 1) := by decide +kernel
theorem dX3_passOn_83 : decode cX3_passOn 83 = .ok (.iadd, 1) := by decide +kernel
theorem dX3_passOn_84 : decode cX3_passOn 84 = .ok (.iaload, 1) := by decide +kernel
theorem dX3_passOn_85 : decode cX3_passOn 85 = .ok (.iload_n 3, 1) := by decide +kernel
theorem dX3_passOn_86 : decode cX3_passOn 86 = .ok (.if_icmp .ne 22, 3) := by decide +kernel
theorem dX3_passOn_89 : decode cX3_passOn 89 = .ok (.aload_n 0, 1) := by decide +kernel
theorem dX3_passOn_90 : decode cX3_passOn 90 = .ok (.iload_n 2, 1) := by decide +kernel
theorem dX3_passOn_91 : decode cX3_passOn 91 = .ok (.aload_n 0, 1) := by decide +kernel
theorem dX3_passOn_92 : decode cX3_passOn 92 = .ok (.getfield 21, 3) := by decide +kernel
theorem dX3_passOn_95 : decode cX3_passOn 95 = .ok (.iload_n 2, 1) := by decide +kernel
theorem dX3_passOn_96 : decode cX3_passOn 96 = .ok (.iaload, 1) := by decide +kernel
theorem dX3_passOn_97 : decode cX3_passOn 97 = .ok (.invokevirtual 95, 3) := by decide +kernel
theorem dX3_passOn_100 : decode cX3_passOn 100 = .ok (.iload 4, 2) := by decide +kernel
theorem dX3_passOn_102 : decode cX3_passOn 102 = .ok (.sipush 1024, 3) := by decide +kernel
theorem dX3_passOn_105 : decode cX3_passOn 105 = .ok (.ior, 1) := by decide +kernel
theorem dX3_passOn_106 : decode cX3_passOn 106 = .ok (.istore 4, 2) := by decide +kernel
theorem dX3_passOn_108 : decode cX3_passOn 108 = .ok (.iload 4, 2) := by decide +kernel
theorem dX3_passOn_110 : decode cX3_passOn 110 = .ok (.ireturn, 1) := by decide +kernel
theorem dX3_addWays_0 : decode cX3_addWays 0 = .ok (.aload_n 0, 1) := by decide +kernel
theorem dX3_addWays_1 : decode cX3_addWays 1 = .ok (.getfield 24, 3) := by decide +kernel
theorem dX3_addWays_4 : decode cX3_addWays 4 = .ok (.iload_n 1, 1) := by decide +kernel
theorem dX3_addWays_5 : decode cX3_addWays 5 = .ok (.ldc 99, 2) := by decide +kernel
theorem dX3_addWays_7 : decode cX3_addWays 7 = .ok (.aload_n 0, 1) := by decide +kernel
theorem dX3_addWays_8 : decode cX3_addWays 8 = .ok (.getfield 24, 3) := by decide +kernel
theorem dX3_addWays_11 : decode cX3_addWays 11 = .ok (.iload_n 1, 1) := by decide +kernel
theorem dX3_addWays_12 : decode cX3_addWays 12 = .ok (.iaload, 1) := by decide +kernel
theorem dX3_addWays_13 : decode cX3_addWays 13 = .ok (.iload_n 2, 1) := by decide +kernel
theorem dX3_addWays_14 : decode cX3_addWays 14 = .ok (.iadd, 1) := by decide +kernel
theorem dX3_addWays_15 : decode cX3_addWays 15 = .ok (.invokestatic 100, 3) := by decide +kernel
theorem dX3_addWays_18 : decode cX3_addWays 18 = .ok (.iastore, 1) := by decide +kernel
theorem dX3_addWays_19 : decode cX3_addWays 19 = .ok (.return_, 1) := by decide +kernel
theorem dX3_sumWays_0 : decode cX3_sumWays 0 = .ok (.iconst 0, 1) := by decide +kernel
theorem dX3_sumWays_1 : decode cX3_sumWays 1 = .ok (.istore_n 2, 1) := by decide +kernel
theorem dX3_sumWays_2 : decode cX3_sumWays 2 = .ok (.iload_n 1, 1) := by decide +kernel
theorem dX3_sumWays_3 : decode cX3_sumWays 3 = .ok (.istore_n 3, 1) := by decide +kernel
theorem dX3_sumWays_4 : decode cX3_sumWays 4 = .ok (.iload_n 3, 1) := by decide +kernel
theorem dX3_sumWays_5 : decode cX3_sumWays 5 = .ok (.ifCond .lt 41, 3) := by decide +kernel
theorem dX3_sumWays_8 : decode cX3_sumWays 8 = .ok (.ldc 99, 2) := by decide +kernel
theorem dX3_sumWays_10 : decode cX3_sumWays 10 = .ok (.iload_n 2, 1) := by decide +kernel
theorem dX3_sumWays_11 : decode cX3_sumWays 11 = .ok (.aload_n 0, 1) := by decide +kernel
theorem dX3_sumWays_12 : decode cX3_sumWays 12 = .ok (.getfield 21, 3) := by decide +kernel
theorem dX3_sumWays_15 : decode cX3_sumWays 15 = .ok (.iload_n 3, 1) := by decide +kernel
theorem dX3_sumWays_16 : decode cX3_sumWays 16 = .ok (.iaload, 1) := by decide +kernel
theorem dX3_sumWays_17 : decode cX3_sumWays 17 = .ok (.iadd, 1) := by decide +kernel
theorem dX3_sumWays_18 : decode cX3_sumWays 18 = .ok (.invokestatic 100, 3) := by decide +kernel
theorem dX3_sumWays_21 : decode cX3_sumWays 21 = .ok (.istore_n 2, 1) := by decide +kernel
theorem dX3_sumWays_22 : decode cX3_sumWays 22 = .ok (.aload_n 0, 1) := by decide +kernel
theorem dX3_sumWays_23 : decode cX3_sumWays 23 = .ok (.getfield 21, 3) := by decide +kernel
theorem dX3_sumWays_26 : decode cX3_sumWays 26 = .ok (.iload_n 3, 1) := by decide +kernel
theorem dX3_sumWays_27 : decode cX3_sumWays 27 = .ok (.iconst 0, 1) := by decide +kernel
theorem dX3_sumWays_28 : decode cX3_sumWays 28 = .ok (.iastore, 1) := by decide +kernel
theorem dX3_sumWays_29 : decode cX3_sumWays 29 = .ok (.iload_n 3, 1) := by decide +kernel
theorem dX3_sumWays_30 : decode cX3_sumWays 30 = .ok (.ifCond .ne 7, 3) := by decide +kernel
theorem dX3_sumWays_33 : decode cX3_sumWays 33 = .ok (.iconst (-1), 1) := by decide +kernel
theorem dX3_sumWays_34 : decode cX3_sumWays 34 = .ok (.goto 8, 3) := by decide +kernel
theorem dX3_sumWays_37 : decode cX3_sumWays 37 = .ok (.iload_n 3, 1) := by decide +kernel
theorem dX3_sumWays_38 : decode cX3_sumWays 38 = .ok (.iconst 1, 1) := by decide +kernel
theorem dX3_sumWays_39 : decode cX3_sumWays 39 = .ok (.isub, 1) := by decide +kernel
theorem dX3_sumWays_40 : decode cX3_sumWays 40 = .ok (.iload_n 1, 1) := by decide +kernel
theorem dX3_sumWays_41 : decode cX3_sumWays 41 = .ok (.iand, 1) := by decide +kernel
theorem dX3_sumWays_42 : decode cX3_sumWays 42 = .ok (.istore_n 3, 1) := by decide +kernel
theorem dX3_sumWays_43 : decode cX3_sumWays 43 = .ok (.goto (-39), 3) := by decide +kernel
theorem dX3_sumWays_46 : decode cX3_sumWays 46 = .ok (.iload_n 2, 1) := by decide +kernel
theorem dX3_sumWays_47 : decode cX3_sumWays 47 = .ok (.ireturn, 1) := by decide +kernel
theorem dX4_init_0 : decode cX4_init 0 = .ok (.aload_n 0, 1) := by decide +kernel
theorem dX4_init_1 : decode cX4_init 1 = .ok (.invokespecial 3, 3) := by decide +kernel
theorem dX4_init_4 : decode cX4_init 4 = .ok (.aload_n 0, 1) := by decide +kernel
theorem dX4_init_5 : decode cX4_init 5 = .ok (.bipush 10, 2) := by decide +kernel
theorem dX4_init_7 : decode cX4_init 7 = .ok (.newarray .int, 2) := by decide +kernel
theorem dX4_init_9 : decode cX4_init 9 = .ok (.putfield 9, 3) := by decide +kernel
theorem dX4_init_12 : decode cX4_init 12 = .ok (.aload_n 0, 1) := by decide +kernel
theorem dX4_init_13 : decode cX4_init 13 = .ok (.bipush 10, 2) := by decide +kernel
theorem dX4_init_15 : decode cX4_init 15 = .ok (.newarray .boolean, 2) := by decide +kernel
theorem dX4_init_17 : decode cX4_init 17 = .ok (.putfield 15, 3) := by decide +kernel
theorem dX4_init_20 : decode cX4_init 20 = .ok (.aload_n 0, 1) := by decide +kernel
theorem dX4_init_21 : decode cX4_init 21 = .ok (.iconst 0, 1) := by decide +kernel
theorem dX4_init_22 : decode cX4_init 22 = .ok (.putfield 19, 3) := by decide +kernel
theorem dX4_init_25 : decode cX4_init 25 = .ok (.aload_n 0, 1) := by decide +kernel
theorem dX4_init_26 : decode cX4_init 26 = .ok (.iconst 0, 1) := by decide +kernel
theorem dX4_init_27 : decode cX4_init 27 = .ok (.putfield 23, 3) := by decide +kernel
theorem dX4_init_30 : decode cX4_init 30 = .ok (.aload_n 0, 1) := by decide +kernel
theorem dX4_init_31 : decode cX4_init 31 = .ok (.iconst 0, 1) := by decide +kernel
theorem dX4_init_32 : decode cX4_init 32 = .ok (.putfield 26, 3) := by decide +kernel
theorem dX4_init_35 : decode cX4_init 35 = .ok (.return_, 1) := by decide +kernel
theorem dX5_init_0 : decode cX5_init 0 = .ok (.aload_n 0, 1) := by decide +kernel
theorem dX5_init_1 : decode cX5_init 1 = .ok (.invokespecial 3, 3) := by decide +kernel
theorem dX5_init_4 : decode cX5_init 4 = .ok (.aload_n 0, 1) := by decide +kernel
theorem dX5_init_5 : decode cX5_init 5 = .ok (.bipush 60, 2) := by decide +kernel
theorem dX5_init_7 : decode cX5_init 7 = .ok (.newarray .int, 2) := by decide +kernel
theorem dX5_init_9 : decode cX5_init 9 = .ok (.putfield 9, 3) := by decide +kernel
theorem dX5_init_12 : decode cX5_init 12 = .ok (.aload_n 0, 1) := by decide +kernel
theorem dX5_init_13 : decode cX5_init 13 = .ok (.bipush 60, 2) := by decide +kernel
theorem dX5_init_15 : decode cX5_init 15 = .ok (.newarray .int, 2) := by decide +kernel
theorem dX5_init_17 : decode cX5_init 17 = .ok (.putfield 15, 3) := by decide +kernel
theorem dX5_init_20 : decode cX5_init 20 = .ok (.aload_n 0, 1) := by decide +kernel
theorem dX5_init_21 : decode cX5_init 21 = .ok (.bipush 60, 2) := by decide +kernel
theorem dX5_init_23 : decode cX5_init 23 = .ok (.newarray .int, 2) := by decide +kernel
theorem dX5_init_25 : decode cX5_init 25 = .ok (.putfield 18, 3) := by decide +kernel
theorem dX5_init_28 : decode cX5_init 28 = .ok (.aload_n 0, 1) := by decide +kernel
theorem dX5_init_29 : decode cX5_init 29 = .ok (.bipush 60, 2) := by decide +kernel
theorem dX5_init_31 : decode cX5_init 31 = .ok (.newarray .int, 2) := by decide +kernel
theorem dX5_init_33 : decode cX5_init 33 = .ok (.putfield 21, 3) := by decide +kernel
theorem dX5_init_36 : decode cX5_init 36 = .ok (.aload_n 0, 1) := by decide +kernel
theorem dX5_init_37 : decode cX5_init 37 = .ok (.bipush 60, 2) := by decide +kernel
theorem dX5_init_39 : decode cX5_init 39 = .ok (.newarray .int, 2) := by decide +kernel
theorem dX5_init_41 : decode cX5_init 41 = .ok (.putfield 24, 3) := by decide +kernel
theorem dX5_init_44 : decode cX5_init 44 = .ok (.aload_n 0, 1) := by decide +kernel
theorem dX5_init_45 : decode cX5_init 45 = .ok (.bipush 60, 2) := by decide +kernel
theorem dX5_init_47 : decode cX5_init 47 = .ok (.newarray .int, 2) := by decide +kernel
theorem dX5_init_49 : decode cX5_init 49 = .ok (.putfield 27, 3) := by decide +kernel
theorem dX5_init_52 : decode cX5_init 52 = .ok (.aload_n 0, 1) := by decide +kernel
theorem dX5_init_53 : decode cX5_init 53 = .ok (.bipush 60, 2) := by decide +kernel
theorem dX5_init_55 : decode cX5_init 55 = .ok (.newarray .int, 2) := by decide +kernel
theorem dX5_init_57 : decode cX5_init 57 = .ok (.putfield 30, 3) := by decide +kernel
theorem dX5_init_60 : decode cX5_init 60 = .ok (.aload_n 0, 1) := by decide +kernel
theorem dX5_init_61 : decode cX5_init 61 = .ok (.iconst 0, 1) := by decide +kernel
theorem dX5_init_62 : decode cX5_init 62 = .ok (.putfield 33, 3) := by decide +kernel
theorem dX5_init_65 : decode cX5_init 65 = .ok (.aload_n 0, 1) := by decide +kernel
theorem dX5_init_66 : decode cX5_init 66 = .ok (.iconst 0, 1) := by decide +kernel
theorem dX5_init_67 : decode cX5_init 67 = .ok (.putfield 37, 3) := by decide +kernel
theorem dX5_init_70 : decode cX5_init 70 = .ok (.return_, 1) := by decide +kernel
theorem dX5_addRecord_0 : decode cX5_addRecord 0 = .ok (.aload_n 0, 1) := by decide +kernel
theorem dX5_addRecord_1 : decode cX5_addRecord 1 = .ok (.getfield 33, 3) := by decide +kernel
theorem dX5_addRecord_4 : decode cX5_addRecord 4 = .ok (.istore 6, 2) := by decide +kernel
theorem dX5_addRecord_6 : decode cX5_addRecord 6 = .ok (.aload_n 0, 1) := by decide +kernel
theorem dX5_addRecord_7 : decode cX5_addRecord 7 = .ok (.getfield 9, 3) := by decide +kernel
theorem dX5_addRecord_10 : decode cX5_addRecord 10 = .ok (.iload 6, 2) := by decide +kernel
theorem dX5_addRecord_12 : decode cX5_addRecord 12 = .ok (.iload_n 1, 1) := by decide +kernel
theorem dX5_addRecord_13 : decode cX5_addRecord 13 = .ok (.iastore, 1) := by decide +kernel
theorem dX5_addRecord_14 : decode cX5_addRecord 14 = .ok (.aload_n 0, 1) := by decide +kernel
theorem dX5_addRecord_15 : decode cX5_addRecord 15 = .ok (.getfield 15, 3) := by decide +kernel
theorem dX5_addRecord_18 : decode cX5_addRecord 18 = .ok (.iload 6, 2) := by decide +kernel
theorem dX5_addRecord_20 : decode cX5_addRecord 20 = .ok (.iload_n 2, 1) := by decide +kernel
theorem dX5_addRecord_21 : decode cX5_addRecord 21 = .ok (.iastore, 1) := by decide +kernel
theorem dX5_addRecord_22 : decode cX5_addRecord 22 = .ok (.aload_n 0, 1) := by decide +kernel
theorem dX5_addRecord_23 : decode cX5_addRecord 23 = .ok (.getfield 18, 3) := by decide +kernel
theorem dX5_addRecord_26 : decode cX5_addRecord 26 = .ok (.iload 6, 2) := by decide +kernel
theorem dX5_addRecord_28 : decode cX5_addRecord 28 = .ok (.iload_n 3, 1) := by decide +kernel
theorem dX5_addRecord_29 : decode cX5_addRecord 29 = .ok (.iastore, 1) := by decide +kernel
theorem dX5_addRecord_30 : decode cX5_addRecord 30 = .ok (.aload_n 0, 1) := by decide +kernel
theorem dX5_addRecord_31 : decode cX5_addRecord 31 = .ok (.getfield 21, 3) := by decide +kernel
theorem dX5_addRecord_34 : decode cX5_addRecord 34 = .ok (.iload 6, 2) := by decide +kernel
theorem dX5_addRecord_36 : decode cX5_addRecord 36 = .ok (.iload 4, 2) := by decide +kernel
theorem dX5_addRecord_38 : decode cX5_addRecord 38 = .ok (.iastore, 1) := by decide +kernel
theorem dX5_addRecord_39 : decode cX5_addRecord 39 = .ok (.aload_n 0, 1) := by decide +kernel
theorem dX5_addRecord_40 : decode cX5_addRecord 40 = .ok (.getfield 24, 3) := by decide +kernel
theorem dX5_addRecord_43 : decode cX5_addRecord 43 = .ok (.iload 6, 2) := by decide +kernel
theorem dX5_addRecord_45 : decode cX5_addRecord 45 = .ok (.iload 5, 2) := by decide +kernel
theorem dX5_addRecord_47 : decode cX5_addRecord 47 = .ok (.iastore, 1) := by decide +kernel
theorem dX5_addRecord_48 : decode cX5_addRecord 48 = .ok (.aload_n 0, 1) := by decide +kernel
theorem dX5_addRecord_49 : decode cX5_addRecord 49 = .ok (.getfield 27, 3) := by decide +kernel
theorem dX5_addRecord_52 : decode cX5_addRecord 52 = .ok (.iload 6, 2) := by decide +kernel
theorem dX5_addRecord_54 : decode cX5_addRecord 54 = .ok (.ldc 40, 2) := by decide +kernel
theorem dX5_addRecord_56 : decode cX5_addRecord 56 = .ok (.iastore, 1) := by decide +kernel
theorem dX5_addRecord_57 : decode cX5_addRecord 57 = .ok (.iload 6, 2) := by decide +kernel
theorem dX5_addRecord_59 : decode cX5_addRecord 59 = .ok (.istore 7, 2) := by decide +kernel
theorem dX5_addRecord_61 : decode cX5_addRecord 61 = .ok (.iload 7, 2) := by decide +kernel
theorem dX5_addRecord_63 : decode cX5_addRecord 63 = .ok (.ifCond .le 43, 3) := by decide +kernel
theorem dX5_addRecord_66 : decode cX5_addRecord 66 = .ok (.aload_n 0, 1) := by decide +kernel
theorem dX5_addRecord_67 : decode cX5_addRecord 67 = .ok (.getfield 18, 3) := by decide +kernel
theorem dX5_addRecord_70 : decode cX5_addRecord 70 = .ok (.aload_n 0, 1) := by decide +kernel
theorem dX5_addRecord_71 : decode cX5_addRecord 71 = .ok (.getfield 30, 3) := by decide +kernel
theorem dX5_addRecord_74 : decode cX5_addRecord 74 = .ok (.iload 7, 2) := by decide +kernel
theorem dX5_addRecord_76 : decode cX5_addRecord 76 = .ok (.iconst 1, 1) := by decide +kernel
theorem dX5_addRecord_77 : decode cX5_addRecord 77 = .ok (.isub, 1) := by decide +kernel
theorem dX5_addRecord_78 : decode cX5_addRecord 78 = .ok (.iaload, 1) := by decide +kernel
theorem dX5_addRecord_79 : decode cX5_addRecord 79 = .ok (.iaload, 1) := by decide +kernel
theorem dX5_addRecord_80 : decode cX5_addRecord 80 = .ok (.iload_n 3, 1) := by decide +kernel
theorem dX5_addRecord_81 : decode cX5_addRecord 81 = .ok (.if_icmp .le 25, 3) := by decide +kernel
theorem dX5_addRecord_84 : decode cX5_addRecord 84 = .ok (.aload_n 0, 1) := by decide +kernel
theorem dX5_addRecord_85 : decode cX5_addRecord 85 = .ok (.getfield 30, 3) := by decide +kernel
theorem dX5_addRecord_88 : decode cX5_addRecord 88 = .ok (.iload 7, 2) := by decide +kernel
theorem dX5_addRecord_90 : decode cX5_addRecord 90 = .ok (.aload_n 0, 1) := by decide +kernel
theorem dX5_addRecord_91 : decode cX5_addRecord 91 = .ok (.getfield 30, 3) := by decide +kernel
theorem dX5_addRecord_94 : decode cX5_addRecord 94 = .ok (.iload 7, 2) := by decide +kernel
theorem dX5_addRecord_96 : decode cX5_addRecord 96 = .ok (.iconst 1, 1) := by decide +kernel
theorem dX5_addRecord_97 : decode cX5_addRecord 97 = .ok (.isub, 1) := by decide +kernel
theorem dX5_addRecord_98 : decode cX5_addRecord 98 = .ok (.iaload, 1) := by decide +kernel
theorem dX5_addRecord_99 : decode cX5_addRecord 99 = .ok (.iastore, 1) := by decide +kernel
theorem dX5_addRecord_100 : decode cX5_addRecord 100 = .ok (.iinc 7 (-1), 3) := by decide +kernel
theorem dX5_addRecord_103 : decode cX5_addRecord 103 = .ok (.goto (-42), 3) := by decide +kernel
theorem dX5_addRecord_106 : decode cX5_addRecord 106 = .ok (.aload_n 0, 1) := by decide +kernel
theorem dX5_addRecord_107 : decode cX5_addRecord 107 = .ok (.getfield 30, 3) := by decide +kernel
theorem dX5_addRecord_110 : decode cX5_addRecord 110 = .ok (.iload 7, 2) := by decide +kernel
theorem dX5_addRecord_112 : decode cX5_addRecord 112 = .ok (.iload 6, 2) := by decide +kernel
theorem dX5_addRecord_114 : decode cX5_addRecord 114 = .ok (.iastore, 1) := by decide +kernel
theorem dX5_addRecord_115 : decode cX5_addRecord 115 = .ok (.aload_n 0, 1) := by decide +kernel
theorem dX5_addRecord_116 : decode cX5_addRecord 116 = .ok (.iload 6, 2) := by decide +kernel
theorem dX5_addRecord_118 : decode cX5_addRecord 118 = .ok (.iconst 1, 1) := by decide +kernel
theorem dX5_addRecord_119 : decode cX5_addRecord 119 = .ok (.iadd, 1) := by decide +kernel
theorem dX5_addRecord_120 : decode cX5_addRecord 120 = .ok (.putfield 33, 3) := by decide +kernel
theorem dX5_addRecord_123 : decode cX5_addRecord 123 = .ok (.iload 6, 2) := by decide +kernel
theorem dX5_addRecord_125 : decode cX5_addRecord 125 = .ok (.ireturn, 1) := by decide +kernel
theorem dX5_takeBack_0 : decode cX5_takeBack 0 = .ok (.aload_n 0, 1) := by decide +kernel
theorem dX5_takeBack_1 : decode cX5_takeBack 1 = .ok (.getfield 27, 3) := by decide +kernel
theorem dX5_takeBack_4 : decode cX5_takeBack 4 = .ok (.iload_n 1, 1) := by decide +kernel
theorem dX5_takeBack_5 : decode cX5_takeBack 5 = .ok (.iload_n 2, 1) := by decide +kernel
theorem dX5_takeBack_6 : decode cX5_takeBack 6 = .ok (.iastore, 1) := by decide +kernel
theorem dX5_takeBack_7 : decode cX5_takeBack 7 = .ok (.aload_n 0, 1) := by decide +kernel
theorem dX5_takeBack_8 : decode cX5_takeBack 8 = .ok (.dup, 1) := by decide +kernel
theorem dX5_takeBack_9 : decode cX5_takeBack 9 = .ok (.getfield 37, 3) := by decide +kernel
theorem dX5_takeBack_12 : decode cX5_takeBack 12 = .ok (.iconst 1, 1) := by decide +kernel
theorem dX5_takeBack_13 : decode cX5_takeBack 13 = .ok (.iadd, 1) := by decide +kernel
theorem dX5_takeBack_14 : decode cX5_takeBack 14 = .ok (.putfield 37, 3) := by decide +kernel
theorem dX5_takeBack_17 : decode cX5_takeBack 17 = .ok (.return_, 1) := by decide +kernel
theorem dX5_counts_0 : decode cX5_counts 0 = .ok (.aload_n 0, 1) := by decide +kernel
theorem dX5_counts_1 : decode cX5_counts 1 = .ok (.getfield 9, 3) := by decide +kernel
theorem dX5_counts_4 : decode cX5_counts 4 = .ok (.iload_n 1, 1) := by decide +kernel
theorem dX5_counts_5 : decode cX5_counts 5 = .ok (.iaload, 1) := by decide +kernel
theorem dX5_counts_6 : decode cX5_counts 6 = .ok (.iload_n 2, 1) := by decide +kernel
theorem dX5_counts_7 : decode cX5_counts 7 = .ok (.if_icmp .ne 27, 3) := by decide +kernel
theorem dX5_counts_10 : decode cX5_counts 10 = .ok (.aload_n 0, 1) := by decide +kernel
theorem dX5_counts_11 : decode cX5_counts 11 = .ok (.getfield 24, 3) := by decide +kernel
theorem dX5_counts_14 : decode cX5_counts 14 = .ok (.iload_n 1, 1) := by decide +kernel
theorem dX5_counts_15 : decode cX5_counts 15 = .ok (.iaload, 1) := by decide +kernel
theorem dX5_counts_16 : decode cX5_counts 16 = .ok (.iload_n 3, 1) := by decide +kernel
theorem dX5_counts_17 : decode cX5_counts 17 = .ok (.if_icmp .gt 17, 3) := by decide +kernel
theorem dX5_counts_20 : decode cX5_counts 20 = .ok (.iload_n 3, 1) := by decide +kernel
theorem dX5_counts_21 : decode cX5_counts 21 = .ok (.aload_n 0, 1) := by decide +kernel
theorem dX5_counts_22 : decode cX5_counts 22 = .ok (.getfield 27, 3) := by decide +kernel
theorem dX5_counts_25 : decode cX5_counts 25 = .ok (.iload_n 1, 1) := by decide +kernel
theorem dX5_counts_26 : decode cX5_counts 26 = .ok (.iaload, 1) := by decide +kernel
theorem dX5_counts_27 : decode cX5_counts 27 = .ok (.if_icmp .ge 7, 3) := by decide +kernel
theorem dX5_counts_30 : decode cX5_counts 30 = .ok (.iconst 1, 1) := by decide +kernel
theorem dX5_counts_31 : decode cX5_counts 31 = .ok (.goto 4, 3) := by decide +kernel
theorem dX5_counts_34 : decode cX5_counts 34 = .ok (.iconst 0, 1) := by decide +kernel
theorem dX5_counts_35 : decode cX5_counts 35 = .ok (.ireturn, 1) := by decide +kernel
theorem dX5_lastPlace_0 : decode cX5_lastPlace 0 = .ok (.bipush (-9), 2) := by decide +kernel
theorem dX5_lastPlace_2 : decode cX5_lastPlace 2 = .ok (.istore 4, 2) := by decide +kernel
theorem dX5_lastPlace_4 : decode cX5_lastPlace 4 = .ok (.iconst 0, 1) := by decide +kernel
theorem dX5_lastPlace_5 : decode cX5_lastPlace 5 = .ok (.istore 5, 2) := by decide +kernel
theorem dX5_lastPlace_7 : decode cX5_lastPlace 7 = .ok (.iload 5, 2) := by decide +kernel
theorem dX5_lastPlace_9 : decode cX5_lastPlace 9 = .ok (.aload_n 0, 1) := by decide +kernel
theorem dX5_lastPlace_10 : decode cX5_lastPlace 10 = .ok (.getfield 33, 3) := by decide +kernel
theorem dX5_lastPlace_13 : decode cX5_lastPlace 13 = .ok (.if_icmp .ge 49, 3) := by decide +kernel
theorem dX5_lastPlace_16 : decode cX5_lastPlace 16 = .ok (.aload_n 0, 1) := by decide +kernel
theorem dX5_lastPlace_17 : decode cX5_lastPlace 17 = .ok (.getfield 30, 3) := by decide +kernel
theorem dX5_lastPlace_20 : decode cX5_lastPlace 20 = .ok (.iload 5, 2) := by decide +kernel
theorem dX5_lastPlace_22 : decode cX5_lastPlace 22 = .ok (.iaload, 1) := by decide +kernel
theorem dX5_lastPlace_23 : decode cX5_lastPlace 23 = .ok (.istore 6, 2) := by decide +kernel
theorem dX5_lastPlace_25 : decode cX5_lastPlace 25 = .ok (.aload_n 0, 1) := by decide +kernel
theorem dX5_lastPlace_26 : decode cX5_lastPlace 26 = .ok (.getfield 18, 3) := by decide +kernel
theorem dX5_lastPlace_29 : decode cX5_lastPlace 29 = .ok (.iload 6, 2) := by decide +kernel
theorem dX5_lastPlace_31 : decode cX5_lastPlace 31 = .ok (.iaload, 1) := by decide +kernel
theorem dX5_lastPlace_32 : decode cX5_lastPlace 32 = .ok (.iload_n 2, 1) := by decide +kernel
theorem dX5_lastPlace_33 : decode cX5_lastPlace 33 = .ok (.if_icmp .gt 23, 3) := by decide +kernel
theorem dX5_lastPlace_36 : decode cX5_lastPlace 36 = .ok (.aload_n 0, 1) := by decide +kernel
theorem dX5_lastPlace_37 : decode cX5_lastPlace 37 = .ok (.iload 6, 2) := by decide +kernel
theorem dX5_lastPlace_39 : decode cX5_lastPlace 39 = .ok (.iload_n 1, 1) := by decide +kernel
theorem dX5_lastPlace_40 : decode cX5_lastPlace 40 = .ok (.iload_n 3, 1) := by decide +kernel
theorem dX5_lastPlace_41 : decode cX5_lastPlace 41 = .ok (.invokevirtual 41, 3) := by decide +kernel
theorem dX5_lastPlace_44 : decode cX5_lastPlace 44 = .ok (.ifCond .eq 12, 3) := by decide +kernel
theorem dX5_lastPlace_47 : decode cX5_lastPlace 47 = .ok (.aload_n 0, 1) := by decide +kernel
theorem dX5_lastPlace_48 : decode cX5_lastPlace 48 = .ok (.getfield 15, 3) := by decide +kernel
theorem dX5_lastPlace_51 : decode cX5_lastPlace 51 = .ok (.iload 6, 2) := by decide +kernel
theorem dX5_lastPlace_53 : decode cX5_lastPlace 53 = .ok (.iaload, 1) := by decide +kernel
theorem dX5_lastPlace_54 : decode cX5_lastPlace 54 = .ok (.istore 4, 2) := by decide +kernel
theorem dX5_lastPlace_56 : decode cX5_lastPlace 56 = .ok (.iinc 5 1, 3) := by decide +kernel
theorem dX5_lastPlace_59 : decode cX5_lastPlace 59 = .ok (.goto (-52), 3) := by decide +kernel
theorem dX5_lastPlace_62 : decode cX5_lastPlace 62 = .ok (.iload 4, 2) := by decide +kernel
theorem dX5_lastPlace_64 : decode cX5_lastPlace 64 = .ok (.ireturn, 1) := by decide +kernel
theorem dX5_quarrelDays_0 : decode cX5_quarrelDays 0 = .ok (.iconst 0, 1) := by decide +kernel
theorem dX5_quarrelDays_1 : decode cX5_quarrelDays 1 = .ok (.istore_n 3, 1) := by decide +kernel
theorem dX5_quarrelDays_2 : decode cX5_quarrelDays 2 = .ok (.iconst (-1), 1) := by decide +kernel
theorem dX5_quarrelDays_3 : decode cX5_quarrelDays 3 = .ok (.istore 4, 2) := by decide +kernel
theorem dX5_quarrelDays_5 : decode cX5_quarrelDays 5 = .ok (.iconst (-1), 1) := by decide +kernel
theorem dX5_quarrelDays_6 : decode cX5_quarrelDays 6 = .ok (.istore 5, 2) := by decide +kernel
theorem dX5_quarrelDays_8 : decode cX5_quarrelDays 8 = .ok (.iconst 0, 1) := by decide +kernel
theorem dX5_quarrelDays_9 : decode cX5_quarrelDays 9 = .ok (.istore 6, 2) := by decide +kernel
theorem dX5_quarrelDays_11 : decode cX5_quarrelDays 11 = .ok (.iconst 0, 1) := by decide +kernel
theorem dX5_quarrelDays_12 : decode cX5_quarrelDays 12 = .ok (.istore 7, 2) := by decide +kernel
theorem dX5_quarrelDays_14 : decode cX5_quarrelDays 14 = .ok (.iload 7, 2) := by decide +kernel
theorem dX5_quarrelDays_16 : decode cX5_quarrelDays 16 = .ok (.aload_n 0, 1) := by decide +kernel
theorem dX5_quarrelDays_17 : decode cX5_quarrelDays 17 = .ok (.getfield 33, 3) := by decide +kernel
theorem dX5_quarrelDays_20 : decode cX5_quarrelDays 20 = .ok (.if_icmp .ge 88, 3) := by decide +kernel
theorem dX5_quarrelDays_23 : decode cX5_quarrelDays 23 = .ok (.aload_n 0, 1) := by decide +kernel
theorem dX5_quarrelDays_24 : decode cX5_quarrelDays 24 = .ok (.getfield 30, 3) := by decide +kernel
theorem dX5_quarrelDays_27 : decode cX5_quarrelDays 27 = .ok (.iload 7, 2) := by decide +kernel
theorem dX5_quarrelDays_29 : decode cX5_quarrelDays 29 = .ok (.iaload, 1) := by decide +kernel
theorem dX5_quarrelDays_30 : decode cX5_quarrelDays 30 = .ok (.istore 8, 2) := by decide +kernel
theorem dX5_quarrelDays_32 : decode cX5_quarrelDays 32 = .ok (.aload_n 0, 1) := by decide +kernel
theorem dX5_quarrelDays_33 : decode cX5_quarrelDays 33 = .ok (.iload 8, 2) := by decide +kernel
theorem dX5_quarrelDays_35 : decode cX5_quarrelDays 35 = .ok (.iload_n 1, 1) := by decide +kernel
theorem dX5_quarrelDays_36 : decode cX5_quarrelDays 36 = .ok (.iload_n 2, 1) := by decide +kernel
theorem dX5_quarrelDays_37 : decode cX5_quarrelDays 37 = .ok (.invokevirtual 41, 3) := by decide +kernel
theorem dX5_quarrelDays_40 : decode cX5_quarrelDays 40 = .ok (.ifCond .eq 62, 3) := by decide +kernel
theorem dX5_quarrelDays_43 : decode cX5_quarrelDays 43 = .ok (.aload_n 0, 1) := by decide +kernel
theorem dX5_quarrelDays_44 : decode cX5_quarrelDays 44 = .ok (.getfield 18, 3) := by decide +kernel
theorem dX5_quarrelDays_47 : decode cX5_quarrelDays 47 = .ok (.iload 8, 2) := by decide +kernel
theorem dX5_quarrelDays_49 : decode cX5_quarrelDays 49 = .ok (.iaload, 1) := by decide +kernel
theorem dX5_quarrelDays_50 : decode cX5_quarrelDays 50 = .ok (.iload 4, 2) := by decide +kernel
theorem dX5_quarrelDays_52 : decode cX5_quarrelDays 52 = .ok (.if_icmp .eq 27, 3) := by decide +kernel
theorem dX5_quarrelDays_55 : decode cX5_quarrelDays 55 = .ok (.aload_n 0, 1) := by decide +kernel
theorem dX5_quarrelDays_56 : decode cX5_quarrelDays 56 = .ok (.getfield 18, 3) := by decide +kernel
theorem dX5_quarrelDays_59 : decode cX5_quarrelDays 59 = .ok (.iload 8, 2) := by decide +kernel
theorem dX5_quarrelDays_61 : decode cX5_quarrelDays 61 = .ok (.iaload, 1) := by decide +kernel
theorem dX5_quarrelDays_62 : decode cX5_quarrelDays 62 = .ok (.istore 4, 2) := by decide +kernel
theorem dX5_quarrelDays_64 : decode cX5_quarrelDays 64 = .ok (.aload_n 0, 1) := by decide +kernel
theorem dX5_quarrelDays_65 : decode cX5_quarrelDays 65 = .ok (.getfield 15, 3) := by decide +kernel
theorem dX5_quarrelDays_68 : decode cX5_quarrelDays 68 = .ok (.iload 8, 2) := by decide +kernel
theorem dX5_quarrelDays_70 : decode cX5_quarrelDays 70 = .ok (.iaload, 1) := by decide +kernel
theorem dX5_quarrelDays_71 : decode cX5_quarrelDays 71 = .ok (.istore 5, 2) := by decide +kernel
theorem dX5_quarrelDays_73 : decode cX5_quarrelDays 73 = .ok (.iconst 0, 1) := by decide +kernel
theorem dX5_quarrelDays_74 : decode cX5_quarrelDays 74 = .ok (.istore 6, 2) := by decide +kernel
theorem dX5_quarrelDays_76 : decode cX5_quarrelDays 76 = .ok (.goto 26, 3) := by decide +kernel
theorem dX5_quarrelDays_79 : decode cX5_quarrelDays 79 = .ok (.aload_n 0, 1) := by decide +kernel
theorem dX5_quarrelDays_80 : decode cX5_quarrelDays 80 = .ok (.getfield 15, 3) := by decide +kernel
theorem dX5_quarrelDays_83 : decode cX5_quarrelDays 83 = .ok (.iload 8, 2) := by decide +kernel
theorem dX5_quarrelDays_85 : decode cX5_quarrelDays 85 = .ok (.iaload, 1) := by decide +kernel
theorem dX5_quarrelDays_86 : decode cX5_quarrelDays 86 = .ok (.iload 5, 2) := by decide +kernel
theorem dX5_quarrelDays_88 : decode cX5_quarrelDays 88 = .ok (.if_icmp .eq 14, 3) := by decide +kernel
theorem dX5_quarrelDays_91 : decode cX5_quarrelDays 91 = .ok (.iload 6, 2) := by decide +kernel
theorem dX5_quarrelDays_93 : decode cX5_quarrelDays 93 = .ok (.ifCond .ne 9, 3) := by decide +kernel
theorem dX5_quarrelDays_96 : decode cX5_quarrelDays 96 = .ok (.iconst 1, 1) := by decide +kernel
theorem dX5_quarrelDays_97 : decode cX5_quarrelDays 97 = .ok (.istore 6, 2) := by decide +kernel
theorem dX5_quarrelDays_99 : decode cX5_quarrelDays 99 = .ok (.iinc 3 1, 3) := by decide +kernel
theorem dX5_quarrelDays_102 : decode cX5_quarrelDays 102 = .ok (.iinc 7 1, 3) := by decide +kernel
theorem dX5_quarrelDays_105 : decode cX5_quarrelDays 105 = .ok (.goto (-91), 3) := by decide +kernel
theorem dX5_quarrelDays_108 : decode cX5_quarrelDays 108 = .ok (.iload_n 3, 1) := by decide +kernel
theorem dX5_quarrelDays_109 : decode cX5_quarrelDays 109 = .ok (.ireturn, 1) := by decide +kernel
theorem dX5_lastChange_0 : decode cX5_lastChange 0 = .ok (.iconst 0, 1) := by decide +kernel
theorem dX5_lastChange_1 : decode cX5_lastChange 1 = .ok (.istore_n 3, 1) := by decide +kernel
theorem dX5_lastChange_2 : decode cX5_lastChange 2 = .ok (.iconst 0, 1) := by decide +kernel
theorem dX5_lastChange_3 : decode cX5_lastChange 3 = .ok (.istore 4, 2) := by decide +kernel
theorem dX5_lastChange_5 : decode cX5_lastChange 5 = .ok (.iload 4, 2) := by decide +kernel
theorem dX5_lastChange_7 : decode cX5_lastChange 7 = .ok (.aload_n 0, 1) := by decide +kernel
theorem dX5_lastChange_8 : decode cX5_lastChange 8 = .ok (.getfield 33, 3) := by decide +kernel
theorem dX5_lastChange_11 : decode cX5_lastChange 11 = .ok (.if_icmp .ge 66, 3) := by decide +kernel
theorem dX5_lastChange_14 : decode cX5_lastChange 14 = .ok (.aload_n 0, 1) := by decide +kernel
theorem dX5_lastChange_15 : decode cX5_lastChange 15 = .ok (.getfield 9, 3) := by decide +kernel
theorem dX5_lastChange_18 : decode cX5_lastChange 18 = .ok (.iload 4, 2) := by decide +kernel
theorem dX5_lastChange_20 : decode cX5_lastChange 20 = .ok (.iaload, 1) := by decide +kernel
theorem dX5_lastChange_21 : decode cX5_lastChange 21 = .ok (.iload_n 1, 1) := by decide +kernel
theorem dX5_lastChange_22 : decode cX5_lastChange 22 = .ok (.if_icmp .ne 49, 3) := by decide +kernel
theorem dX5_lastChange_25 : decode cX5_lastChange 25 = .ok (.aload_n 0, 1) := by decide +kernel
theorem dX5_lastChange_26 : decode cX5_lastChange 26 = .ok (.getfield 24, 3) := by decide +kernel
theorem dX5_lastChange_29 : decode cX5_lastChange 29 = .ok (.iload 4, 2) := by decide +kernel
theorem dX5_lastChange_31 : decode cX5_lastChange 31 = .ok (.iaload, 1) := by decide +kernel
theorem dX5_lastChange_32 : decode cX5_lastChange 32 = .ok (.iload_n 2, 1) := by decide +kernel
theorem dX5_lastChange_33 : decode cX5_lastChange 33 = .ok (.if_icmp .gt 15, 3) := by decide +kernel
theorem dX5_lastChange_36 : decode cX5_lastChange 36 = .ok (.iload_n 3, 1) := by decide +kernel
theorem dX5_lastChange_37 : decode cX5_lastChange 37 = .ok (.aload_n 0, 1) := by decide +kernel
theorem dX5_lastChange_38 : decode cX5_lastChange 38 = .ok (.getfield 24, 3) := by decide +kernel
theorem dX5_lastChange_41 : decode cX5_lastChange 41 = .ok (.iload 4, 2) := by decide +kernel
theorem dX5_lastChange_43 : decode cX5_lastChange 43 = .ok (.iaload, 1) := by decide +kernel
theorem dX5_lastChange_44 : decode cX5_lastChange 44 = .ok (.invokestatic 45, 3) := by decide +kernel
theorem dX5_lastChange_47 : decode cX5_lastChange 47 = .ok (.istore_n 3, 1) := by decide +kernel
theorem dX5_lastChange_48 : decode cX5_lastChange 48 = .ok (.aload_n 0, 1) := by decide +kernel
theorem dX5_lastChange_49 : decode cX5_lastChange 49 = .ok (.getfield 27, 3) := by decide +kernel
theorem dX5_lastChange_52 : decode cX5_lastChange 52 = .ok (.iload 4, 2) := by decide +kernel
theorem dX5_lastChange_54 : decode cX5_lastChange 54 = .ok (.iaload, 1) := by decide +kernel
theorem dX5_lastChange_55 : decode cX5_lastChange 55 = .ok (.iload_n 2, 1) := by decide +kernel
theorem dX5_lastChange_56 : decode cX5_lastChange 56 = .ok (.if_icmp .gt 15, 3) := by decide +kernel
theorem dX5_lastChange_59 : decode cX5_lastChange 59 = .ok (.iload_n 3, 1) := by decide +kernel
theorem dX5_lastChange_60 : decode cX5_lastChange 60 = .ok (.aload_n 0, 1) := by decide +kernel
theorem dX5_lastChange_61 : decode cX5_lastChange 61 = .ok (.getfield 27, 3) := by decide +kernel
theorem dX5_lastChange_64 : decode cX5_lastChange 64 = .ok (.iload 4, 2) := by decide +kernel
theorem dX5_lastChange_66 : decode cX5_lastChange 66 = .ok (.iaload, 1) := by decide +kernel
theorem dX5_lastChange_67 : decode cX5_lastChange 67 = .ok (.invokestatic 45, 3) := by decide +kernel
theorem dX5_lastChange_70 : decode cX5_lastChange 70 = .ok (.istore_n 3, 1) := by decide +kernel
theorem dX5_lastChange_71 : decode cX5_lastChange 71 = .ok (.iinc 4 1, 3) := by decide +kernel
theorem dX5_lastChange_74 : decode cX5_lastChange 74 = .ok (.goto (-69), 3) := by decide +kernel
theorem dX5_lastChange_77 : decode cX5_lastChange 77 = .ok (.iload_n 3, 1) := by decide +kernel
theorem dX5_lastChange_78 : decode cX5_lastChange 78 = .ok (.ireturn, 1) := by decide +kernel
theorem dX6_init_0 : decode cX6_init 0 = .ok (.aload_n 0, 1) := by decide +kernel
theorem dX6_init_1 : decode cX6_init 1 = .ok (.invokespecial 3, 3) := by decide +kernel
theorem dX6_init_4 : decode cX6_init 4 = .ok (.aload_n 0, 1) := by decide +kernel
theorem dX6_init_5 : decode cX6_init 5 = .ok (.bipush 40, 2) := by decide +kernel
theorem dX6_init_7 : decode cX6_init 7 = .ok (.newarray .int, 2) := by decide +kernel
theorem dX6_init_9 : decode cX6_init 9 = .ok (.putfield 9, 3) := by decide +kernel
theorem dX6_init_12 : decode cX6_init 12 = .ok (.aload_n 0, 1) := by decide +kernel
theorem dX6_init_13 : decode cX6_init 13 = .ok (.bipush 40, 2) := by decide +kernel
theorem dX6_init_15 : decode cX6_init 15 = .ok (.newarray .int, 2) := by decide +kernel
theorem dX6_init_17 : decode cX6_init 17 = .ok (.putfield 15, 3) := by decide +kernel
theorem dX6_init_20 : decode cX6_init 20 = .ok (.aload_n 0, 1) := by decide +kernel
theorem dX6_init_21 : decode cX6_init 21 = .ok (.bipush 40, 2) := by decide +kernel
theorem dX6_init_23 : decode cX6_init 23 = .ok (.newarray .int, 2) := by decide +kernel
theorem dX6_init_25 : decode cX6_init 25 = .ok (.putfield 18, 3) := by decide +kernel
theorem dX6_init_28 : decode cX6_init 28 = .ok (.aload_n 0, 1) := by decide +kernel
theorem dX6_init_29 : decode cX6_init 29 = .ok (.bipush 40, 2) := by decide +kernel
theorem dX6_init_31 : decode cX6_init 31 = .ok (.newarray .int, 2) := by decide +kernel
theorem dX6_init_33 : decode cX6_init 33 = .ok (.putfield 21, 3) := by decide +kernel
theorem dX6_init_36 : decode cX6_init 36 = .ok (.aload_n 0, 1) := by decide +kernel
theorem dX6_init_37 : decode cX6_init 37 = .ok (.iconst 0, 1) := by decide +kernel
theorem dX6_init_38 : decode cX6_init 38 = .ok (.putfield 24, 3) := by decide +kernel
theorem dX6_init_41 : decode cX6_init 41 = .ok (.return_, 1) := by decide +kernel
theorem dX6_addSaying_0 : decode cX6_addSaying 0 = .ok (.aload_n 0, 1) := by decide +kernel
theorem dX6_addSaying_1 : decode cX6_addSaying 1 = .ok (.getfield 24, 3) := by decide +kernel
theorem dX6_addSaying_4 : decode cX6_addSaying 4 = .ok (.istore 5, 2) := by decide +kernel
theorem dX6_addSaying_6 : decode cX6_addSaying 6 = .ok (.aload_n 0, 1) := by decide +kernel
theorem dX6_addSaying_7 : decode cX6_addSaying 7 = .ok (.getfield 9, 3) := by decide +kernel
theorem dX6_addSaying_10 : decode cX6_addSaying 10 = .ok (.iload 5, 2) := by decide +kernel
theorem dX6_addSaying_12 : decode cX6_addSaying 12 = .ok (.iload_n 1, 1) := by decide +kernel
theorem dX6_addSaying_13 : decode cX6_addSaying 13 = .ok (.iastore, 1) := by decide +kernel
theorem dX6_addSaying_14 : decode cX6_addSaying 14 = .ok (.aload_n 0, 1) := by decide +kernel
theorem dX6_addSaying_15 : decode cX6_addSaying 15 = .ok (.getfield 15, 3) := by decide +kernel
theorem dX6_addSaying_18 : decode cX6_addSaying 18 = .ok (.iload 5, 2) := by decide +kernel
theorem dX6_addSaying_20 : decode cX6_addSaying 20 = .ok (.iload_n 2, 1) := by decide +kernel
theorem dX6_addSaying_21 : decode cX6_addSaying 21 = .ok (.iastore, 1) := by decide +kernel
theorem dX6_addSaying_22 : decode cX6_addSaying 22 = .ok (.aload_n 0, 1) := by decide +kernel
theorem dX6_addSaying_23 : decode cX6_addSaying 23 = .ok (.getfield 18, 3) := by decide +kernel
theorem dX6_addSaying_26 : decode cX6_addSaying 26 = .ok (.iload 5, 2) := by decide +kernel
theorem dX6_addSaying_28 : decode cX6_addSaying 28 = .ok (.iload_n 3, 1) := by decide +kernel
theorem dX6_addSaying_29 : decode cX6_addSaying 29 = .ok (.iastore, 1) := by decide +kernel
theorem dX6_addSaying_30 : decode cX6_addSaying 30 = .ok (.aload_n 0, 1) := by decide +kernel
theorem dX6_addSaying_31 : decode cX6_addSaying 31 = .ok (.getfield 21, 3) := by decide +kernel
theorem dX6_addSaying_34 : decode cX6_addSaying 34 = .ok (.iload 5, 2) := by decide +kernel
theorem dX6_addSaying_36 : decode cX6_addSaying 36 = .ok (.iload 4, 2) := by decide +kernel
theorem dX6_addSaying_38 : decode cX6_addSaying 38 = .ok (.iastore, 1) := by decide +kernel
theorem dX6_addSaying_39 : decode cX6_addSaying 39 = .ok (.aload_n 0, 1) := by decide +kernel
theorem dX6_addSaying_40 : decode cX6_addSaying 40 = .ok (.iload 5, 2) := by decide +kernel
theorem dX6_addSaying_42 : decode cX6_addSaying 42 = .ok (.iconst 1, 1) := by decide +kernel
theorem dX6_addSaying_43 : decode cX6_addSaying 43 = .ok (.iadd, 1) := by decide +kernel
theorem dX6_addSaying_44 : decode cX6_addSaying 44 = .ok (.putfield 24, 3) := by decide +kernel
theorem dX6_addSaying_47 : decode cX6_addSaying 47 = .ok (.iload 5, 2) := by decide +kernel
theorem dX6_addSaying_49 : decode cX6_addSaying 49 = .ok (.ireturn, 1) := by decide +kernel
theorem dX7_init_0 : decode cX7_init 0 = .ok (.aload_n 0, 1) := by decide +kernel
theorem dX7_init_1 : decode cX7_init 1 = .ok (.invokespecial 3, 3) := by decide +kernel
theorem dX7_init_4 : decode cX7_init 4 = .ok (.aload_n 0, 1) := by decide +kernel
theorem dX7_init_5 : decode cX7_init 5 = .ok (.bipush 8, 2) := by decide +kernel
theorem dX7_init_7 : decode cX7_init 7 = .ok (.newarray .int, 2) := by decide +kernel
theorem dX7_init_9 : decode cX7_init 9 = .ok (.putfield 9, 3) := by decide +kernel
theorem dX7_init_12 : decode cX7_init 12 = .ok (.aload_n 0, 1) := by decide +kernel
theorem dX7_init_13 : decode cX7_init 13 = .ok (.bipush 12, 2) := by decide +kernel
theorem dX7_init_15 : decode cX7_init 15 = .ok (.newarray .int, 2) := by decide +kernel
theorem dX7_init_17 : decode cX7_init 17 = .ok (.putfield 15, 3) := by decide +kernel
theorem dX7_init_20 : decode cX7_init 20 = .ok (.aload_n 0, 1) := by decide +kernel
theorem dX7_init_21 : decode cX7_init 21 = .ok (.bipush 64, 2) := by decide +kernel
theorem dX7_init_23 : decode cX7_init 23 = .ok (.newarray .int, 2) := by decide +kernel
theorem dX7_init_25 : decode cX7_init 25 = .ok (.putfield 18, 3) := by decide +kernel
theorem dX7_init_28 : decode cX7_init 28 = .ok (.aload_n 0, 1) := by decide +kernel
theorem dX7_init_29 : decode cX7_init 29 = .ok (.bipush 64, 2) := by decide +kernel
theorem dX7_init_31 : decode cX7_init 31 = .ok (.newarray .int, 2) := by decide +kernel
theorem dX7_init_33 : decode cX7_init 33 = .ok (.putfield 21, 3) := by decide +kernel
theorem dX7_init_36 : decode cX7_init 36 = .ok (.aload_n 0, 1) := by decide +kernel
theorem dX7_init_37 : decode cX7_init 37 = .ok (.bipush 8, 2) := by decide +kernel
theorem dX7_init_39 : decode cX7_init 39 = .ok (.newarray .int, 2) := by decide +kernel
theorem dX7_init_41 : decode cX7_init 41 = .ok (.putfield 24, 3) := by decide +kernel
theorem dX7_init_44 : decode cX7_init 44 = .ok (.aload_n 0, 1) := by decide +kernel
theorem dX7_init_45 : decode cX7_init 45 = .ok (.bipush 8, 2) := by decide +kernel
theorem dX7_init_47 : decode cX7_init 47 = .ok (.newarray .int, 2) := by decide +kernel
theorem dX7_init_49 : decode cX7_init 49 = .ok (.putfield 27, 3) := by decide +kernel
theorem dX7_init_52 : decode cX7_init 52 = .ok (.aload_n 0, 1) := by decide +kernel
theorem dX7_init_53 : decode cX7_init 53 = .ok (.bipush 8, 2) := by decide +kernel
theorem dX7_init_55 : decode cX7_init 55 = .ok (.newarray .int, 2) := by decide +kernel
theorem dX7_init_57 : decode cX7_init 57 = .ok (.putfield 30, 3) := by decide +kernel
theorem dX7_init_60 : decode cX7_init 60 = .ok (.aload_n 0, 1) := by decide +kernel
theorem dX7_init_61 : decode cX7_init 61 = .ok (.sipush 2048, 3) := by decide +kernel
theorem dX7_init_64 : decode cX7_init 64 = .ok (.newarray .int, 2) := by decide +kernel
theorem dX7_init_66 : decode cX7_init 66 = .ok (.putfield 33, 3) := by decide +kernel
theorem dX7_init_69 : decode cX7_init 69 = .ok (.aload_n 0, 1) := by decide +kernel
theorem dX7_init_70 : decode cX7_init 70 = .ok (.bipush 8, 2) := by decide +kernel
theorem dX7_init_72 : decode cX7_init 72 = .ok (.newarray .int, 2) := by decide +kernel
theorem dX7_init_74 : decode cX7_init 74 = .ok (.putfield 36, 3) := by decide +kernel
theorem dX7_init_77 : decode cX7_init 77 = .ok (.aload_n 0, 1) := by decide +kernel
theorem dX7_init_78 : decode cX7_init 78 = .ok (.iconst 0, 1) := by decide +kernel
theorem dX7_init_79 : decode cX7_init 79 = .ok (.putfield 39, 3) := by decide +kernel
theorem dX7_init_82 : decode cX7_init 82 = .ok (.aload_n 0, 1) := by decide +kernel
theorem dX7_init_83 : decode cX7_init 83 = .ok (.iconst 0, 1) := by decide +kernel
theorem dX7_init_84 : decode cX7_init 84 = .ok (.putfield 43, 3) := by decide +kernel
theorem dX7_init_87 : decode cX7_init 87 = .ok (.aload_n 0, 1) := by decide +kernel
theorem dX7_init_88 : decode cX7_init 88 = .ok (.iconst 0, 1) := by decide +kernel
theorem dX7_init_89 : decode cX7_init 89 = .ok (.putfield 46, 3) := by decide +kernel
theorem dX7_init_92 : decode cX7_init 92 = .ok (.aload_n 0, 1) := by decide +kernel
theorem dX7_init_93 : decode cX7_init 93 = .ok (.iconst 0, 1) := by decide +kernel
theorem dX7_init_94 : decode cX7_init 94 = .ok (.putfield 49, 3) := by decide +kernel
theorem dX7_init_97 : decode cX7_init 97 = .ok (.aload_n 0, 1) := by decide +kernel
theorem dX7_init_98 : decode cX7_init 98 = .ok (.iconst 0, 1) := by decide +kernel
theorem dX7_init_99 : decode cX7_init 99 = .ok (.putfield 52, 3) := by decide +kernel
theorem dX7_init_102 : decode cX7_init 102 = .ok (.return_, 1) := by decide +kernel
theorem dX7_rebuild_0 : decode cX7_rebuild 0 = .ok (.iload_n 1, 1) := by decide +kernel
theorem dX7_rebuild_1 : decode cX7_rebuild 1 = .ok (.aload_n 0, 1) := by decide +kernel
theorem dX7_rebuild_2 : decode cX7_rebuild 2 = .ok (.getfield 49, 3) := by decide +kernel
theorem dX7_rebuild_5 : decode cX7_rebuild 5 = .ok (.if_icmp .ne 15, 3) := by decide +kernel
theorem dX7_rebuild_8 : decode cX7_rebuild 8 = .ok (.aload_n 2, 1) := by decide +kernel
theorem dX7_rebuild_9 : decode cX7_rebuild 9 = .ok (.getfield 55, 3) := by decide +kernel
theorem dX7_rebuild_12 : decode cX7_rebuild 12 = .ok (.aload_n 0, 1) := by decide +kernel
theorem dX7_rebuild_13 : decode cX7_rebuild 13 = .ok (.getfield 52, 3) := by decide +kernel
theorem dX7_rebuild_16 : decode cX7_rebuild 16 = .ok (.if_icmp .ne 4, 3) := by decide +kernel
theorem dX7_rebuild_19 : decode cX7_rebuild 19 = .ok (.return_, 1) := by decide +kernel
theorem dX7_rebuild_20 : decode cX7_rebuild 20 = .ok (.aload_n 0, 1) := by decide +kernel
theorem dX7_rebuild_21 : decode cX7_rebuild 21 = .ok (.iload_n 1, 1) := by decide +kernel
theorem dX7_rebuild_22 : decode cX7_rebuild 22 = .ok (.putfield 49, 3) := by decide +kernel
theorem dX7_rebuild_25 : decode cX7_rebuild 25 = .ok (.aload_n 0, 1) := by decide +kernel
theorem dX7_rebuild_26 : decode cX7_rebuild 26 = .ok (.aload_n 2, 1) := by decide +kernel
theorem dX7_rebuild_27 : decode cX7_rebuild 27 = .ok (.getfield 55, 3) := by decide +kernel
theorem dX7_rebuild_30 : decode cX7_rebuild 30 = .ok (.putfield 52, 3) := by decide +kernel
theorem dX7_rebuild_33 : decode cX7_rebuild 33 = .ok (.aload_n 0, 1) := by decide +kernel
theorem dX7_rebuild_34 : decode cX7_rebuild 34 = .ok (.iload_n 1, 1) := by decide +kernel
theorem dX7_rebuild_35 : decode cX7_rebuild 35 = .ok (.invokevirtual 60, 3) := by decide +kernel
theorem dX7_rebuild_38 : decode cX7_rebuild 38 = .ok (.aload_n 0, 1) := by decide +kernel
theorem dX7_rebuild_39 : decode cX7_rebuild 39 = .ok (.invokevirtual 64, 3) := by decide +kernel
theorem dX7_rebuild_42 : decode cX7_rebuild 42 = .ok (.aload_n 0, 1) := by decide +kernel
theorem dX7_rebuild_43 : decode cX7_rebuild 43 = .ok (.iconst 0, 1) := by decide +kernel
theorem dX7_rebuild_44 : decode cX7_rebuild 44 = .ok (.putfield 43, 3) := by decide +kernel
theorem dX7_rebuild_47 : decode cX7_rebuild 47 = .ok (.iconst 0, 1) := by decide +kernel
theorem dX7_rebuild_48 : decode cX7_rebuild 48 = .ok (.istore_n 3, 1) := by decide +kernel
theorem dX7_rebuild_49 : decode cX7_rebuild 49 = .ok (.iload_n 3, 1) := by decide +kernel
theorem dX7_rebuild_50 : decode cX7_rebuild 50 = .ok (.aload_n 2, 1) := by decide +kernel
theorem dX7_rebuild_51 : decode cX7_rebuild 51 = .ok (.getfield 55, 3) := by decide +kernel
theorem dX7_rebuild_54 : decode cX7_rebuild 54 = .ok (.if_icmp .ge 88, 3) := by decide +kernel
theorem dX7_rebuild_57 : decode cX7_rebuild 57 = .ok (.iload_n 1, 1) := by decide +kernel
theorem dX7_rebuild_58 : decode cX7_rebuild 58 = .ok (.aload_n 2, 1) := by decide +kernel
theorem dX7_rebuild_59 : decode cX7_rebuild 59 = .ok (.getfield 67, 3) := by decide +kernel
theorem dX7_rebuild_62 : decode cX7_rebuild 62 = .ok (.iload_n 3, 1) := by decide +kernel
theorem dX7_rebuild_63 : decode cX7_rebuild 63 = .ok (.iaload, 1) := by decide +kernel
theorem dX7_rebuild_64 : decode cX7_rebuild 64 = .ok (.ishr, 1) := by decide +kernel
theorem dX7_rebuild_65 : decode cX7_rebuild 65 = .ok (.iconst 1, 1) := by decide +kernel
theorem dX7_rebuild_66 : decode cX7_rebuild 66 = .ok (.iand, 1) := by decide +kernel
theorem dX7_rebuild_67 : decode cX7_rebuild 67 = .ok (.ifCond .eq 69, 3) := by decide +kernel
theorem dX7_rebuild_70 : decode cX7_rebuild 70 = .ok (.iload_n 1, 1) := by decide +kernel
theorem dX7_rebuild_71 : decode cX7_rebuild 71 = .ok (.aload_n 2, 1) := by decide +kernel
theorem dX7_rebuild_72 : decode cX7_rebuild 72 = .ok (.getfield 70, 3) := by decide +kernel
theorem dX7_rebuild_75 : decode cX7_rebuild 75 = .ok (.iload_n 3, 1) := by decide +kernel
theorem dX7_rebuild_76 : decode cX7_rebuild 76 = .ok (.iaload, 1) := by decide +kernel
theorem dX7_rebuild_77 : decode cX7_rebuild 77 = .ok (.ishr, 1) := by decide +kernel
theorem dX7_rebuild_78 : decode cX7_rebuild 78 = .ok (.iconst 1, 1) := by decide +kernel
theorem dX7_rebuild_79 : decode cX7_rebuild 79 = .ok (.iand, 1) := by decide +kernel
theorem dX7_rebuild_80 : decode cX7_rebuild 80 = .ok (.ifCond .eq 56, 3) := by decide +kernel
theorem dX7_rebuild_83 : decode cX7_rebuild 83 = .ok (.aload_n 0, 1) := by decide +kernel
theorem dX7_rebuild_84 : decode cX7_rebuild 84 = .ok (.dup, 1) := by decide +kernel
theorem dX7_rebuild_85 : decode cX7_rebuild 85 = .ok (.getfield 43, 3) := by decide +kernel
theorem dX7_rebuild_88 : decode cX7_rebuild 88 = .ok (.aload_n 2, 1) := by decide +kernel
theorem dX7_rebuild_89 : decode cX7_rebuild 89 = .ok (.getfield 73, 3) := by decide +kernel
theorem dX7_rebuild_92 : decode cX7_rebuild 92 = .ok (.iload_n 3, 1) := by decide +kernel
theorem dX7_rebuild_93 : decode cX7_rebuild 93 = .ok (.iaload, 1) := by decide +kernel
theorem dX7_rebuild_94 : decode cX7_rebuild 94 = .ok (.iadd, 1) := by decide +kernel
theorem dX7_rebuild_95 : decode cX7_rebuild 95 = .ok (.putfield 43, 3) := by decide +kernel
theorem dX7_rebuild_98 : decode cX7_rebuild 98 = .ok (.aload_n 0, 1) := by decide +kernel
theorem dX7_rebuild_99 : decode cX7_rebuild 99 = .ok (.aload_n 2, 1) := by decide +kernel
theorem dX7_rebuild_100 : decode cX7_rebuild 100 = .ok (.getfield 76, 3) := by decide +kernel
theorem dX7_rebuild_103 : decode cX7_rebuild 103 = .ok (.iload_n 3, 1) := by decide +kernel
theorem dX7_rebuild_104 : decode cX7_rebuild 104 = .ok (.iaload, 1) := by decide +kernel
theorem dX7_rebuild_105 : decode cX7_rebuild 105 = .ok (.aload_n 0, 1) := by decide +kernel
theorem dX7_rebuild_106 : decode cX7_rebuild 106 = .ok (.getfield 15, 3) := by decide +kernel
theorem dX7_rebuild_109 : decode cX7_rebuild 109 = .ok (.aload_n 2, 1) := by decide +kernel
theorem dX7_rebuild_110 : decode cX7_rebuild 110 = .ok (.getfield 67, 3) := by decide +kernel
theorem dX7_rebuild_113 : decode cX7_rebuild 113 = .ok (.iload_n 3, 1) := by decide +kernel
theorem dX7_rebuild_114 : decode cX7_rebuild 114 = .ok (.iaload, 1) := by decide +kernel
theorem dX7_rebuild_115 : decode cX7_rebuild 115 = .ok (.iaload, 1) := by decide +kernel
theorem dX7_rebuild_116 : decode cX7_rebuild 116 = .ok (.aload_n 0, 1) := by decide +kernel
theorem dX7_rebuild_117 : decode cX7_rebuild 117 = .ok (.getfield 15, 3) := by decide +kernel
theorem dX7_rebuild_120 : decode cX7_rebuild 120 = .ok (.aload_n 2, 1) := by decide +kernel
theorem dX7_rebuild_121 : decode cX7_rebuild 121 = .ok (.getfield 70, 3) := by decide +kernel
theorem dX7_rebuild_124 : decode cX7_rebuild 124 = .ok (.iload_n 3, 1) := by decide +kernel
theorem dX7_rebuild_125 : decode cX7_rebuild 125 = .ok (.iaload, 1) := by decide +kernel
theorem dX7_rebuild_126 : decode cX7_rebuild 126 = .ok (.iaload, 1) := by decide +kernel
theorem dX7_rebuild_127 : decode cX7_rebuild 127 = .ok (.aload_n 2, 1) := by decide +kernel
theorem dX7_rebuild_128 : decode cX7_rebuild 128 = .ok (.getfield 73, 3) := by decide +kernel
theorem dX7_rebuild_131 : decode cX7_rebuild 131 = .ok (.iload_n 3, 1) := by decide +kernel
theorem dX7_rebuild_132 : decode cX7_rebuild 132 = .ok (.iaload, 1) := by decide +kernel
theorem dX7_rebuild_133 : decode cX7_rebuild 133 = .ok (.invokevirtual 79, 3) := by decide +kernel
theorem dX7_rebuild_136 : decode cX7_rebuild 136 = .ok (.iinc 3 1, 3) := by decide +kernel
theorem dX7_rebuild_139 : decode cX7_rebuild 139 = .ok (.goto (-90), 3) := by decide +kernel
theorem dX7_rebuild_142 : decode cX7_rebuild 142 = .ok (.aload_n 0, 1) := by decide +kernel
theorem dX7_rebuild_143 : decode cX7_rebuild 143 = .ok (.invokevirtual 83, 3) := by decide +kernel
theorem dX7_rebuild_146 : decode cX7_rebuild 146 = .ok (.aload_n 0, 1) := by decide +kernel
theorem dX7_rebuild_147 : decode cX7_rebuild 147 = .ok (.invokevirtual 86, 3) := by decide +kernel
theorem dX7_rebuild_150 : decode cX7_rebuild 150 = .ok (.return_, 1) := by decide +kernel
theorem dX7_readThings_0 : decode cX7_readThings 0 = .ok (.aload_n 0, 1) := by decide +kernel
theorem dX7_readThings_1 : decode cX7_readThings 1 = .ok (.iconst 0, 1) := by decide +kernel
theorem dX7_readThings_2 : decode cX7_readThings 2 = .ok (.putfield 39, 3) := by decide +kernel
theorem dX7_readThings_5 : decode cX7_readThings 5 = .ok (.iconst 0, 1) := by decide +kernel
theorem dX7_readThings_6 : decode cX7_readThings 6 = .ok (.istore_n 2, 1) := by decide +kernel
theorem dX7_readThings_7 : decode cX7_readThings 7 = .ok (.iload_n 2, 1) := by decide +kernel
theorem dX7_readThings_8 : decode cX7_readThings 8 = .ok (.bipush 12, 2) := by decide +kernel
theorem dX7_readThings_10 : decode cX7_readThings 10 = .ok (.if_icmp .ge 56, 3) := by decide +kernel
theorem dX7_readThings_13 : decode cX7_readThings 13 = .ok (.iload_n 1, 1) := by decide +kernel
theorem dX7_readThings_14 : decode cX7_readThings 14 = .ok (.iload_n 2, 1) := by decide +kernel
theorem dX7_readThings_15 : decode cX7_readThings 15 = .ok (.ishr, 1) := by decide +kernel
theorem dX7_readThings_16 : decode cX7_readThings 16 = .ok (.iconst 1, 1) := by decide +kernel
theorem dX7_readThings_17 : decode cX7_readThings 17 = .ok (.iand, 1) := by decide +kernel
theorem dX7_readThings_18 : decode cX7_readThings 18 = .ok (.ifCond .eq 42, 3) := by decide +kernel
theorem dX7_readThings_21 : decode cX7_readThings 21 = .ok (.aload_n 0, 1) := by decide +kernel
theorem dX7_readThings_22 : decode cX7_readThings 22 = .ok (.getfield 39, 3) := by decide +kernel
theorem dX7_readThings_25 : decode cX7_readThings 25 = .ok (.bipush 8, 2) := by decide +kernel
theorem dX7_readThings_27 : decode cX7_readThings 27 = .ok (.if_icmp .ge 33, 3) := by decide +kernel
theorem dX7_readThings_30 : decode cX7_readThings 30 = .ok (.aload_n 0, 1) := by decide +kernel
theorem dX7_readThings_31 : decode cX7_readThings 31 = .ok (.getfield 9, 3) := by decide +kernel
theorem dX7_readThings_34 : decode cX7_readThings 34 = .ok (.aload_n 0, 1) := by decide +kernel
theorem dX7_readThings_35 : decode cX7_readThings 35 = .ok (.getfield 39, 3) := by decide +kernel
theorem dX7_readThings_38 : decode cX7_readThings 38 = .ok (.iload_n 2, 1) := by decide +kernel
theorem dX7_readThings_39 : decode cX7_readThings 39 = .ok (.iastore, 1) := by decide +kernel
theorem dX7_readThings_40 : decode cX7_readThings 40 = .ok (.aload_n 0, 1) := by decide +kernel
theorem dX7_readThings_41 : decode cX7_readThings 41 = .ok (.getfield 15, 3) := by decide +kernel
theorem dX7_readThings_44 : decode cX7_readThings 44 = .ok (.iload_n 2, 1) := by decide +kernel
theorem dX7_readThings_45 : decode cX7_readThings 45 = .ok (.aload_n 0, 1) := by decide +kernel
theorem dX7_readThings_46 : decode cX7_readThings 46 = .ok (.getfield 39, 3) := by decide +kernel
theorem dX7_readThings_49 : decode cX7_readThings 49 = .ok (.iastore, 1) := by decide +kernel
theorem dX7_readThings_50 : decode cX7_readThings 50 = .ok (.aload_n 0, 1) := by decide +kernel
theorem dX7_readThings_51 : decode cX7_readThings 51 = .ok (.dup, 1) := by decide +kernel
theorem dX7_readThings_52 : decode cX7_readThings 52 = .ok (.getfield 39, 3) := by decide +kernel
theorem dX7_readThings_55 : decode cX7_readThings 55 = .ok (.iconst 1, 1) := by decide +kernel
theorem dX7_readThings_56 : decode cX7_readThings 56 = .ok (.iadd, 1) := by decide +kernel
theorem dX7_readThings_57 : decode cX7_readThings 57 = .ok (.putfield 39, 3) := by decide +kernel
theorem dX7_readThings_60 : decode cX7_readThings 60 = .ok (.iinc 2 1, 3) := by decide +kernel
theorem dX7_readThings_63 : decode cX7_readThings 63 = .ok (.goto (-56), 3) := by decide +kernel
theorem dX7_readThings_66 : decode cX7_readThings 66 = .ok (.return_, 1) := by decide +kernel
theorem dX7_clearTrust_0 : decode cX7_clearTrust 0 = .ok (.iconst 0, 1) := by decide +kernel
theorem dX7_clearTrust_1 : decode cX7_clearTrust 1 = .ok (.istore_n 1, 1) := by decide +kernel
theorem dX7_clearTrust_2 : decode cX7_clearTrust 2 = .ok (.iload_n 1, 1) := by decide +kernel
theorem dX7_clearTrust_3 : decode cX7_clearTrust 3 = .ok (.aload_n 0, 1) := by decide +kernel
theorem dX7_clearTrust_4 : decode cX7_clearTrust 4 = .ok (.getfield 18, 3) := by decide +kernel
theorem dX7_clearTrust_7 : decode cX7_clearTrust 7 = .ok (.arraylength, 1) := by decide +kernel
theorem dX7_clearTrust_8 : decode cX7_clearTrust 8 = .ok (.if_icmp .ge 23, 3) := by decide +kernel
theorem dX7_clearTrust_11 : decode cX7_clearTrust 11 = .ok (.aload_n 0, 1) := by decide +kernel
theorem dX7_clearTrust_12 : decode cX7_clearTrust 12 = .ok (.getfield 18, 3) := by decide +kernel
theorem dX7_clearTrust_15 : decode cX7_clearTrust 15 = .ok (.iload_n 1, 1) := by decide +kernel
theorem dX7_clearTrust_16 : decode cX7_clearTrust 16 = .ok (.iconst 0, 1) := by decide +kernel
theorem dX7_clearTrust_17 : decode cX7_clearTrust 17 = .ok (.iastore, 1) := by decide +kernel
theorem dX7_clearTrust_18 : decode cX7_clearTrust 18 = .ok (.aload_n 0, 1) := by decide +kernel
theorem dX7_clearTrust_19 : decode cX7_clearTrust 19 = .ok (.getfield 21, 3) := by decide +kernel
theorem dX7_clearTrust_22 : decode cX7_clearTrust 22 = .ok (.iload_n 1, 1) := by decide +kernel
theorem dX7_clearTrust_23 : decode cX7_clearTrust 23 = .ok (.iconst 0, 1) := by decide +kernel
theorem dX7_clearTrust_24 : decode cX7_clearTrust 24 = .ok (.iastore, 1) := by decide +kernel
theorem dX7_clearTrust_25 : decode cX7_clearTrust 25 = .ok (.iinc 1 1, 3) := by decide +kernel
theorem dX7_clearTrust_28 : decode cX7_clearTrust 28 = .ok (.goto (-26), 3) := by decide +kernel
theorem dX7_clearTrust_31 : decode cX7_clearTrust 31 = .ok (.iconst 0, 1) := by decide +kernel
theorem dX7_clearTrust_32 : decode cX7_clearTrust 32 = .ok (.istore_n 1, 1) := by decide +kernel
theorem dX7_clearTrust_33 : decode cX7_clearTrust 33 = .ok (.iload_n 1, 1) := by decide +kernel
theorem dX7_clearTrust_34 : decode cX7_clearTrust 34 = .ok (.bipush 8, 2) := by decide +kernel
theorem dX7_clearTrust_36 : decode cX7_clearTrust 36 = .ok (.if_icmp .ge 23, 3) := by decide +kernel
theorem dX7_clearTrust_39 : decode cX7_clearTrust 39 = .ok (.aload_n 0, 1) := by decide +kernel
theorem dX7_clearTrust_40 : decode cX7_clearTrust 40 = .ok (.getfield 24, 3) := by decide +kernel
theorem dX7_clearTrust_43 : decode cX7_clearTrust 43 = .ok (.iload_n 1, 1) := by decide +kernel
theorem dX7_clearTrust_44 : decode cX7_clearTrust 44 = .ok (.iconst 0, 1) := by decide +kernel
theorem dX7_clearTrust_45 : decode cX7_clearTrust 45 = .ok (.iastore, 1) := by decide +kernel
theorem dX7_clearTrust_46 : decode cX7_clearTrust 46 = .ok (.aload_n 0, 1) := by decide +kernel
theorem dX7_clearTrust_47 : decode cX7_clearTrust 47 = .ok (.getfield 27, 3) := by decide +kernel
theorem dX7_clearTrust_50 : decode cX7_clearTrust 50 = .ok (.iload_n 1, 1) := by decide +kernel
theorem dX7_clearTrust_51 : decode cX7_clearTrust 51 = .ok (.iconst 0, 1) := by decide +kernel
theorem dX7_clearTrust_52 : decode cX7_clearTrust 52 = .ok (.iastore, 1) := by decide +kernel
theorem dX7_clearTrust_53 : decode cX7_clearTrust 53 = .ok (.iinc 1 1, 3) := by decide +kernel
theorem dX7_clearTrust_56 : decode cX7_clearTrust 56 = .ok (.goto (-23), 3) := by decide +kernel
theorem dX7_clearTrust_59 : decode cX7_clearTrust 59 = .ok (.return_, 1) := by decide +kernel
theorem dX7_addTrust_0 : decode cX7_addTrust 0 = .ok (.iload_n 1, 1) := by decide +kernel
theorem dX7_addTrust_1 : decode cX7_addTrust 1 = .ok (.ifCond .ne 22, 3) := by decide +kernel
theorem dX7_addTrust_4 : decode cX7_addTrust 4 = .ok (.aload_n 0, 1) := by decide +kernel
theorem dX7_addTrust_5 : decode cX7_addTrust 5 = .ok (.getfield 18, 3) := by decide +kernel
theorem dX7_addTrust_8 : decode cX7_addTrust 8 = .ok (.iload_n 2, 1) := by decide +kernel
theorem dX7_addTrust_9 : decode cX7_addTrust 9 = .ok (.bipush 8, 2) := by decide +kernel
theorem dX7_addTrust_11 : decode cX7_addTrust 11 = .ok (.imul, 1) := by decide +kernel
theorem dX7_addTrust_12 : decode cX7_addTrust 12 = .ok (.iload_n 3, 1) := by decide +kernel
theorem dX7_addTrust_13 : decode cX7_addTrust 13 = .ok (.iadd, 1) := by decide +kernel
theorem dX7_addTrust_14 : decode cX7_addTrust 14 = .ok (.dup2, 1) := by decide +kernel
theorem dX7_addTrust_15 : decode cX7_addTrust 15 = .ok (.iaload, 1) := by decide +kernel
theorem dX7_addTrust_16 : decode cX7_addTrust 16 = .ok (.iload 4, 2) := by decide +kernel
theorem dX7_addTrust_18 : decode cX7_addTrust 18 = .ok (.iadd, 1) := by decide +kernel
theorem dX7_addTrust_19 : decode cX7_addTrust 19 = .ok (.iastore, 1) := by decide +kernel
theorem dX7_addTrust_20 : decode cX7_addTrust 20 = .ok (.goto 73, 3) := by decide +kernel
theorem dX7_addTrust_23 : decode cX7_addTrust 23 = .ok (.iload_n 1, 1) := by decide +kernel
theorem dX7_addTrust_24 : decode cX7_addTrust 24 = .ok (.iconst 1, 1) := by decide +kernel
theorem dX7_addTrust_25 : decode cX7_addTrust 25 = .ok (.if_icmp .ne 38, 3) := by decide +kernel
theorem dX7_addTrust_28 : decode cX7_addTrust 28 = .ok (.aload_n 0, 1) := by decide +kernel
theorem dX7_addTrust_29 : decode cX7_addTrust 29 = .ok (.getfield 21, 3) := by decide +kernel
theorem dX7_addTrust_32 : decode cX7_addTrust 32 = .ok (.iload_n 2, 1) := by decide +kernel
theorem dX7_addTrust_33 : decode cX7_addTrust 33 = .ok (.bipush 8, 2) := by decide +kernel
theorem dX7_addTrust_35 : decode cX7_addTrust 35 = .ok (.imul, 1) := by decide +kernel
theorem dX7_addTrust_36 : decode cX7_addTrust 36 = .ok (.iload_n 3, 1) := by decide +kernel
theorem dX7_addTrust_37 : decode cX7_addTrust 37 = .ok (.iadd, 1) := by decide +kernel
theorem dX7_addTrust_38 : decode cX7_addTrust 38 = .ok (.dup2, 1) := by decide +kernel
theorem dX7_addTrust_39 : decode cX7_addTrust 39 = .ok (.iaload, 1) := by decide +kernel
theorem dX7_addTrust_40 : decode cX7_addTrust 40 = .ok (.iload 4, 2) := by decide +kernel
theorem dX7_addTrust_42 : decode cX7_addTrust 42 = .ok (.iadd, 1) := by decide +kernel
theorem dX7_addTrust_43 : decode cX7_addTrust 43 = .ok (.iastore, 1) := by decide +kernel
theorem dX7_addTrust_44 : decode cX7_addTrust 44 = .ok (.aload_n 0, 1) := by decide +kernel
theorem dX7_addTrust_45 : decode cX7_addTrust 45 = .ok (.getfield 21, 3) := by decide +kernel
theorem dX7_addTrust_48 : decode cX7_addTrust 48 = .ok (.iload_n 3, 1) := by decide +kernel
theorem dX7_addTrust_49 : decode cX7_addTrust 49 = .ok (.bipush 8, 2) := by decide +kernel
theorem dX7_addTrust_51 : decode cX7_addTrust 51 = .ok (.imul, 1) := by decide +kernel
theorem dX7_addTrust_52 : decode cX7_addTrust 52 = .ok (.iload_n 2, 1) := by decide +kernel
theorem dX7_addTrust_53 : decode cX7_addTrust 53 = .ok (.iadd, 1) := by decide +kernel
theorem dX7_addTrust_54 : decode cX7_addTrust 54 = .ok (.dup2, 1) := by decide +kernel
theorem dX7_addTrust_55 : decode cX7_addTrust 55 = .ok (.iaload, 1) := by decide +kernel
theorem dX7_addTrust_56 : decode cX7_addTrust 56 = .ok (.iload 4, 2) := by decide +kernel
theorem dX7_addTrust_58 : decode cX7_addTrust 58 = .ok (.iadd, 1) := by decide +kernel
theorem dX7_addTrust_59 : decode cX7_addTrust 59 = .ok (.iastore, 1) := by decide +kernel
theorem dX7_addTrust_60 : decode cX7_addTrust 60 = .ok (.goto 33, 3) := by decide +kernel
theorem dX7_addTrust_63 : decode cX7_addTrust 63 = .ok (.iload_n 1, 1) := by decide +kernel
theorem dX7_addTrust_64 : decode cX7_addTrust 64 = .ok (.iconst 2, 1) := by decide +kernel
theorem dX7_addTrust_65 : decode cX7_addTrust 65 = .ok (.if_icmp .ne 17, 3) := by decide +kernel
theorem dX7_addTrust_68 : decode cX7_addTrust 68 = .ok (.aload_n 0, 1) := by decide +kernel
theorem dX7_addTrust_69 : decode cX7_addTrust 69 = .ok (.getfield 24, 3) := by decide +kernel
theorem dX7_addTrust_72 : decode cX7_addTrust 72 = .ok (.iload_n 2, 1) := by decide +kernel
theorem dX7_addTrust_73 : decode cX7_addTrust 73 = .ok (.dup2, 1) := by decide +kernel
theorem dX7_addTrust_74 : decode cX7_addTrust 74 = .ok (.iaload, 1) := by decide +kernel
theorem dX7_addTrust_75 : decode cX7_addTrust 75 = .ok (.iload 4, 2) := by decide +kernel
theorem dX7_addTrust_77 : decode cX7_addTrust 77 = .ok (.iadd, 1) := by decide +kernel
theorem dX7_addTrust_78 : decode cX7_addTrust 78 = .ok (.iastore, 1) := by decide +kernel
theorem dX7_addTrust_79 : decode cX7_addTrust 79 = .ok (.goto 14, 3) := by decide +kernel
theorem dX7_addTrust_82 : decode cX7_addTrust 82 = .ok (.aload_n 0, 1) := by decide +kernel
theorem dX7_addTrust_83 : decode cX7_addTrust 83 = .ok (.getfield 27, 3) := by decide +kernel
theorem dX7_addTrust_86 : decode cX7_addTrust 86 = .ok (.iload_n 2, 1) := by decide +kernel
theorem dX7_addTrust_87 : decode cX7_addTrust 87 = .ok (.dup2, 1) := by decide +kernel
theorem dX7_addTrust_88 : decode cX7_addTrust 88 = .ok (.iaload, 1) := by decide +kernel
theorem dX7_addTrust_89 : decode cX7_addTrust 89 = .ok (.iload 4, 2) := by decide +kernel
theorem dX7_addTrust_91 : decode cX7_addTrust 91 = .ok (.iadd, 1) := by decide +kernel
theorem dX7_addTrust_92 : decode cX7_addTrust 92 = .ok (.iastore, 1) := by decide +kernel
theorem dX7_addTrust_93 : decode cX7_addTrust 93 = .ok (.return_, 1) := by decide +kernel
theorem dX7_weighStates_0 : decode cX7_weighStates 0 = .ok (.iconst 1, 1) := by decide +kernel
theorem dX7_weighStates_1 : decode cX7_weighStates 1 = .ok (.aload_n 0, 1) := by decide +kernel
theorem dX7_weighStates_2 : decode cX7_weighStates 2 = .ok (.getfield 39, 3) := by decide +kernel
theorem dX7_weighStates_5 : decode cX7_weighStates 5 = .ok (.ishl, 1) := by decide +kernel
theorem dX7_weighStates_6 : decode cX7_weighStates 6 = .ok (.iconst 1, 1) := by decide +kernel
theorem dX7_weighStates_7 : decode cX7_weighStates 7 = .ok (.isub, 1) := by decide +kernel
theorem dX7_weighStates_8 : decode cX7_weighStates 8 = .ok (.istore_n 1, 1) := by decide +kernel
theorem dX7_weighStates_9 : decode cX7_weighStates 9 = .ok (.iconst 0, 1) := by decide +kernel
theorem dX7_weighStates_10 : decode cX7_weighStates 10 = .ok (.istore_n 2, 1) := by decide +kernel
theorem dX7_weighStates_11 : decode cX7_weighStates 11 = .ok (.iload_n 2, 1) := by decide +kernel
theorem dX7_weighStates_12 : decode cX7_weighStates 12 = .ok (.aload_n 0, 1) := by decide +kernel
theorem dX7_weighStates_13 : decode cX7_weighStates 13 = .ok (.getfield 39, 3) := by decide +kernel
theorem dX7_weighStates_16 : decode cX7_weighStates 16 = .ok (.if_icmp .ge 21, 3) := by decide +kernel
theorem dX7_weighStates_19 : decode cX7_weighStates 19 = .ok (.aload_n 0, 1) := by decide +kernel
theorem dX7_weighStates_20 : decode cX7_weighStates 20 = .ok (.getfield 33, 3) := by decide +kernel
theorem dX7_weighStates_23 : decode cX7_weighStates 23 = .ok (.iload_n 1, 1) := by decide +kernel
theorem dX7_weighStates_24 : decode cX7_weighStates 24 = .ok (.bipush 8, 2) := by decide +kernel
theorem dX7_weighStates_26 : decode cX7_weighStates 26 = .ok (.imul, 1) := by decide +kernel
theorem dX7_weighStates_27 : decode cX7_weighStates 27 = .ok (.iload_n 2, 1) := by decide +kernel
theorem dX7_weighStates_28 : decode cX7_weighStates 28 = .ok (.iadd, 1) := by decide +kernel
theorem dX7_weighStates_29 : decode cX7_weighStates 29 = .ok (.iconst 0, 1) := by decide +kernel
theorem dX7_weighStates_30 : decode cX7_weighStates 30 = .ok (.iastore, 1) := by decide +kernel
theorem dX7_weighStates_31 : decode cX7_weighStates 31 = .ok (.iinc 2 1, 3) := by decide +kernel
theorem dX7_weighStates_34 : decode cX7_weighStates 34 = .ok (.goto (-23), 3) := by decide +kernel
theorem dX7_weighStates_37 : decode cX7_weighStates 37 = .ok (.iload_n 1, 1) := by decide +kernel
