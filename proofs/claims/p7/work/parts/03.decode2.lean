theorem dX7_weighStates_38 : decode cX7_weighStates 38 = .ok (.iconst 1, 1) := by decide +kernel
theorem dX7_weighStates_39 : decode cX7_weighStates 39 = .ok (.isub, 1) := by decide +kernel
theorem dX7_weighStates_40 : decode cX7_weighStates 40 = .ok (.istore_n 2, 1) := by decide +kernel
theorem dX7_weighStates_41 : decode cX7_weighStates 41 = .ok (.iload_n 2, 1) := by decide +kernel
theorem dX7_weighStates_42 : decode cX7_weighStates 42 = .ok (.ifCond .le 55, 3) := by decide +kernel
theorem dX7_weighStates_45 : decode cX7_weighStates 45 = .ok (.aload_n 0, 1) := by decide +kernel
theorem dX7_weighStates_46 : decode cX7_weighStates 46 = .ok (.iload_n 2, 1) := by decide +kernel
theorem dX7_weighStates_47 : decode cX7_weighStates 47 = .ok (.invokevirtual 89, 3) := by decide +kernel
theorem dX7_weighStates_50 : decode cX7_weighStates 50 = .ok (.iconst 0, 1) := by decide +kernel
theorem dX7_weighStates_51 : decode cX7_weighStates 51 = .ok (.istore_n 3, 1) := by decide +kernel
theorem dX7_weighStates_52 : decode cX7_weighStates 52 = .ok (.iload_n 3, 1) := by decide +kernel
theorem dX7_weighStates_53 : decode cX7_weighStates 53 = .ok (.aload_n 0, 1) := by decide +kernel
theorem dX7_weighStates_54 : decode cX7_weighStates 54 = .ok (.getfield 39, 3) := by decide +kernel
theorem dX7_weighStates_57 : decode cX7_weighStates 57 = .ok (.if_icmp .ge 34, 3) := by decide +kernel
theorem dX7_weighStates_60 : decode cX7_weighStates 60 = .ok (.iload_n 2, 1) := by decide +kernel
theorem dX7_weighStates_61 : decode cX7_weighStates 61 = .ok (.iload_n 3, 1) := by decide +kernel
theorem dX7_weighStates_62 : decode cX7_weighStates 62 = .ok (.ishr, 1) := by decide +kernel
theorem dX7_weighStates_63 : decode cX7_weighStates 63 = .ok (.iconst 1, 1) := by decide +kernel
theorem dX7_weighStates_64 : decode cX7_weighStates 64 = .ok (.iand, 1) := by decide +kernel
theorem dX7_weighStates_65 : decode cX7_weighStates 65 = .ok (.ifCond .eq 20, 3) := by decide +kernel
theorem dX7_weighStates_68 : decode cX7_weighStates 68 = .ok (.aload_n 0, 1) := by decide +kernel
theorem dX7_weighStates_69 : decode cX7_weighStates 69 = .ok (.getfield 33, 3) := by decide +kernel
theorem dX7_weighStates_72 : decode cX7_weighStates 72 = .ok (.iload_n 2, 1) := by decide +kernel
theorem dX7_weighStates_73 : decode cX7_weighStates 73 = .ok (.bipush 8, 2) := by decide +kernel
theorem dX7_weighStates_75 : decode cX7_weighStates 75 = .ok (.imul, 1) := by decide +kernel
theorem dX7_weighStates_76 : decode cX7_weighStates 76 = .ok (.iload_n 3, 1) := by decide +kernel
theorem dX7_weighStates_77 : decode cX7_weighStates 77 = .ok (.iadd, 1) := by decide +kernel
theorem dX7_weighStates_78 : decode cX7_weighStates 78 = .ok (.aload_n 0, 1) := by decide +kernel
theorem dX7_weighStates_79 : decode cX7_weighStates 79 = .ok (.iload_n 2, 1) := by decide +kernel
theorem dX7_weighStates_80 : decode cX7_weighStates 80 = .ok (.iload_n 3, 1) := by decide +kernel
theorem dX7_weighStates_81 : decode cX7_weighStates 81 = .ok (.invokevirtual 92, 3) := by decide +kernel
theorem dX7_weighStates_84 : decode cX7_weighStates 84 = .ok (.iastore, 1) := by decide +kernel
theorem dX7_weighStates_85 : decode cX7_weighStates 85 = .ok (.iinc 3 1, 3) := by decide +kernel
theorem dX7_weighStates_88 : decode cX7_weighStates 88 = .ok (.goto (-36), 3) := by decide +kernel
theorem dX7_weighStates_91 : decode cX7_weighStates 91 = .ok (.iinc 2 (-1), 3) := by decide +kernel
theorem dX7_weighStates_94 : decode cX7_weighStates 94 = .ok (.goto (-53), 3) := by decide +kernel
theorem dX7_weighStates_97 : decode cX7_weighStates 97 = .ok (.aload_n 0, 1) := by decide +kernel
theorem dX7_weighStates_98 : decode cX7_weighStates 98 = .ok (.iconst 0, 1) := by decide +kernel
theorem dX7_weighStates_99 : decode cX7_weighStates 99 = .ok (.invokevirtual 89, 3) := by decide +kernel
theorem dX7_weighStates_102 : decode cX7_weighStates 102 = .ok (.aload_n 0, 1) := by decide +kernel
theorem dX7_weighStates_103 : decode cX7_weighStates 103 = .ok (.aload_n 0, 1) := by decide +kernel
theorem dX7_weighStates_104 : decode cX7_weighStates 104 = .ok (.iconst 0, 1) := by decide +kernel
theorem dX7_weighStates_105 : decode cX7_weighStates 105 = .ok (.iconst 0, 1) := by decide +kernel
theorem dX7_weighStates_106 : decode cX7_weighStates 106 = .ok (.invokevirtual 92, 3) := by decide +kernel
theorem dX7_weighStates_109 : decode cX7_weighStates 109 = .ok (.putfield 46, 3) := by decide +kernel
theorem dX7_weighStates_112 : decode cX7_weighStates 112 = .ok (.return_, 1) := by decide +kernel
theorem dX7_readGains_0 : decode cX7_readGains 0 = .ok (.iconst 1, 1) := by decide +kernel
theorem dX7_readGains_1 : decode cX7_readGains 1 = .ok (.aload_n 0, 1) := by decide +kernel
theorem dX7_readGains_2 : decode cX7_readGains 2 = .ok (.getfield 39, 3) := by decide +kernel
theorem dX7_readGains_5 : decode cX7_readGains 5 = .ok (.ishl, 1) := by decide +kernel
theorem dX7_readGains_6 : decode cX7_readGains 6 = .ok (.iconst 1, 1) := by decide +kernel
theorem dX7_readGains_7 : decode cX7_readGains 7 = .ok (.isub, 1) := by decide +kernel
theorem dX7_readGains_8 : decode cX7_readGains 8 = .ok (.istore_n 2, 1) := by decide +kernel
theorem dX7_readGains_9 : decode cX7_readGains 9 = .ok (.iconst 0, 1) := by decide +kernel
theorem dX7_readGains_10 : decode cX7_readGains 10 = .ok (.istore_n 3, 1) := by decide +kernel
theorem dX7_readGains_11 : decode cX7_readGains 11 = .ok (.iload_n 3, 1) := by decide +kernel
theorem dX7_readGains_12 : decode cX7_readGains 12 = .ok (.aload_n 0, 1) := by decide +kernel
theorem dX7_readGains_13 : decode cX7_readGains 13 = .ok (.getfield 39, 3) := by decide +kernel
theorem dX7_readGains_16 : decode cX7_readGains 16 = .ok (.if_icmp .ge 97, 3) := by decide +kernel
theorem dX7_readGains_19 : decode cX7_readGains 19 = .ok (.iload_n 1, 1) := by decide +kernel
theorem dX7_readGains_20 : decode cX7_readGains 20 = .ok (.ifCond .ne 12, 3) := by decide +kernel
theorem dX7_readGains_23 : decode cX7_readGains 23 = .ok (.aload_n 0, 1) := by decide +kernel
theorem dX7_readGains_24 : decode cX7_readGains 24 = .ok (.getfield 24, 3) := by decide +kernel
theorem dX7_readGains_27 : decode cX7_readGains 27 = .ok (.iload_n 3, 1) := by decide +kernel
theorem dX7_readGains_28 : decode cX7_readGains 28 = .ok (.iaload, 1) := by decide +kernel
theorem dX7_readGains_29 : decode cX7_readGains 29 = .ok (.goto 4, 3) := by decide +kernel
theorem dX7_readGains_32 : decode cX7_readGains 32 = .ok (.iconst 0, 1) := by decide +kernel
theorem dX7_readGains_33 : decode cX7_readGains 33 = .ok (.istore 4, 2) := by decide +kernel
theorem dX7_readGains_35 : decode cX7_readGains 35 = .ok (.iload_n 1, 1) := by decide +kernel
theorem dX7_readGains_36 : decode cX7_readGains 36 = .ok (.iconst 1, 1) := by decide +kernel
theorem dX7_readGains_37 : decode cX7_readGains 37 = .ok (.iload_n 3, 1) := by decide +kernel
theorem dX7_readGains_38 : decode cX7_readGains 38 = .ok (.ishl, 1) := by decide +kernel
theorem dX7_readGains_39 : decode cX7_readGains 39 = .ok (.ior, 1) := by decide +kernel
theorem dX7_readGains_40 : decode cX7_readGains 40 = .ok (.iload_n 2, 1) := by decide +kernel
theorem dX7_readGains_41 : decode cX7_readGains 41 = .ok (.if_icmp .ne 14, 3) := by decide +kernel
theorem dX7_readGains_44 : decode cX7_readGains 44 = .ok (.iload 4, 2) := by decide +kernel
theorem dX7_readGains_46 : decode cX7_readGains 46 = .ok (.aload_n 0, 1) := by decide +kernel
theorem dX7_readGains_47 : decode cX7_readGains 47 = .ok (.getfield 27, 3) := by decide +kernel
theorem dX7_readGains_50 : decode cX7_readGains 50 = .ok (.iload_n 3, 1) := by decide +kernel
theorem dX7_readGains_51 : decode cX7_readGains 51 = .ok (.iaload, 1) := by decide +kernel
theorem dX7_readGains_52 : decode cX7_readGains 52 = .ok (.iadd, 1) := by decide +kernel
theorem dX7_readGains_53 : decode cX7_readGains 53 = .ok (.istore 4, 2) := by decide +kernel
theorem dX7_readGains_55 : decode cX7_readGains 55 = .ok (.iconst 0, 1) := by decide +kernel
theorem dX7_readGains_56 : decode cX7_readGains 56 = .ok (.istore 5, 2) := by decide +kernel
theorem dX7_readGains_58 : decode cX7_readGains 58 = .ok (.iload 5, 2) := by decide +kernel
theorem dX7_readGains_60 : decode cX7_readGains 60 = .ok (.aload_n 0, 1) := by decide +kernel
theorem dX7_readGains_61 : decode cX7_readGains 61 = .ok (.getfield 39, 3) := by decide +kernel
theorem dX7_readGains_64 : decode cX7_readGains 64 = .ok (.if_icmp .ge 35, 3) := by decide +kernel
theorem dX7_readGains_67 : decode cX7_readGains 67 = .ok (.iload_n 1, 1) := by decide +kernel
theorem dX7_readGains_68 : decode cX7_readGains 68 = .ok (.iload 5, 2) := by decide +kernel
theorem dX7_readGains_70 : decode cX7_readGains 70 = .ok (.ishr, 1) := by decide +kernel
theorem dX7_readGains_71 : decode cX7_readGains 71 = .ok (.iconst 1, 1) := by decide +kernel
theorem dX7_readGains_72 : decode cX7_readGains 72 = .ok (.iand, 1) := by decide +kernel
theorem dX7_readGains_73 : decode cX7_readGains 73 = .ok (.ifCond .eq 20, 3) := by decide +kernel
theorem dX7_readGains_76 : decode cX7_readGains 76 = .ok (.iload 4, 2) := by decide +kernel
theorem dX7_readGains_78 : decode cX7_readGains 78 = .ok (.aload_n 0, 1) := by decide +kernel
theorem dX7_readGains_79 : decode cX7_readGains 79 = .ok (.getfield 18, 3) := by decide +kernel
theorem dX7_readGains_82 : decode cX7_readGains 82 = .ok (.iload 5, 2) := by decide +kernel
theorem dX7_readGains_84 : decode cX7_readGains 84 = .ok (.bipush 8, 2) := by decide +kernel
theorem dX7_readGains_86 : decode cX7_readGains 86 = .ok (.imul, 1) := by decide +kernel
theorem dX7_readGains_87 : decode cX7_readGains 87 = .ok (.iload_n 3, 1) := by decide +kernel
theorem dX7_readGains_88 : decode cX7_readGains 88 = .ok (.iadd, 1) := by decide +kernel
theorem dX7_readGains_89 : decode cX7_readGains 89 = .ok (.iaload, 1) := by decide +kernel
theorem dX7_readGains_90 : decode cX7_readGains 90 = .ok (.iadd, 1) := by decide +kernel
theorem dX7_readGains_91 : decode cX7_readGains 91 = .ok (.istore 4, 2) := by decide +kernel
theorem dX7_readGains_93 : decode cX7_readGains 93 = .ok (.iinc 5 1, 3) := by decide +kernel
theorem dX7_readGains_96 : decode cX7_readGains 96 = .ok (.goto (-38), 3) := by decide +kernel
theorem dX7_readGains_99 : decode cX7_readGains 99 = .ok (.aload_n 0, 1) := by decide +kernel
theorem dX7_readGains_100 : decode cX7_readGains 100 = .ok (.getfield 30, 3) := by decide +kernel
theorem dX7_readGains_103 : decode cX7_readGains 103 = .ok (.iload_n 3, 1) := by decide +kernel
theorem dX7_readGains_104 : decode cX7_readGains 104 = .ok (.iload 4, 2) := by decide +kernel
theorem dX7_readGains_106 : decode cX7_readGains 106 = .ok (.iastore, 1) := by decide +kernel
theorem dX7_readGains_107 : decode cX7_readGains 107 = .ok (.iinc 3 1, 3) := by decide +kernel
theorem dX7_readGains_110 : decode cX7_readGains 110 = .ok (.goto (-99), 3) := by decide +kernel
theorem dX7_readGains_113 : decode cX7_readGains 113 = .ok (.return_, 1) := by decide +kernel
theorem dX7_weighState_0 : decode cX7_weighState 0 = .ok (.iconst 0, 1) := by decide +kernel
theorem dX7_weighState_1 : decode cX7_weighState 1 = .ok (.istore_n 3, 1) := by decide +kernel
theorem dX7_weighState_2 : decode cX7_weighState 2 = .ok (.iconst 0, 1) := by decide +kernel
theorem dX7_weighState_3 : decode cX7_weighState 3 = .ok (.istore 4, 2) := by decide +kernel
theorem dX7_weighState_5 : decode cX7_weighState 5 = .ok (.iload 4, 2) := by decide +kernel
theorem dX7_weighState_7 : decode cX7_weighState 7 = .ok (.aload_n 0, 1) := by decide +kernel
theorem dX7_weighState_8 : decode cX7_weighState 8 = .ok (.getfield 39, 3) := by decide +kernel
theorem dX7_weighState_11 : decode cX7_weighState 11 = .ok (.if_icmp .ge 31, 3) := by decide +kernel
theorem dX7_weighState_14 : decode cX7_weighState 14 = .ok (.iload_n 1, 1) := by decide +kernel
theorem dX7_weighState_15 : decode cX7_weighState 15 = .ok (.iload 4, 2) := by decide +kernel
theorem dX7_weighState_17 : decode cX7_weighState 17 = .ok (.ishr, 1) := by decide +kernel
theorem dX7_weighState_18 : decode cX7_weighState 18 = .ok (.iconst 1, 1) := by decide +kernel
theorem dX7_weighState_19 : decode cX7_weighState 19 = .ok (.iand, 1) := by decide +kernel
theorem dX7_weighState_20 : decode cX7_weighState 20 = .ok (.ifCond .ne 16, 3) := by decide +kernel
theorem dX7_weighState_23 : decode cX7_weighState 23 = .ok (.iload_n 3, 1) := by decide +kernel
theorem dX7_weighState_24 : decode cX7_weighState 24 = .ok (.aload_n 0, 1) := by decide +kernel
theorem dX7_weighState_25 : decode cX7_weighState 25 = .ok (.iload_n 1, 1) := by decide +kernel
theorem dX7_weighState_26 : decode cX7_weighState 26 = .ok (.iload_n 2, 1) := by decide +kernel
theorem dX7_weighState_27 : decode cX7_weighState 27 = .ok (.iload 4, 2) := by decide +kernel
theorem dX7_weighState_29 : decode cX7_weighState 29 = .ok (.invokevirtual 96, 3) := by decide +kernel
theorem dX7_weighState_32 : decode cX7_weighState 32 = .ok (.invokestatic 100, 3) := by decide +kernel
theorem dX7_weighState_35 : decode cX7_weighState 35 = .ok (.istore_n 3, 1) := by decide +kernel
theorem dX7_weighState_36 : decode cX7_weighState 36 = .ok (.iinc 4 1, 3) := by decide +kernel
theorem dX7_weighState_39 : decode cX7_weighState 39 = .ok (.goto (-34), 3) := by decide +kernel
theorem dX7_weighState_42 : decode cX7_weighState 42 = .ok (.iload_n 3, 1) := by decide +kernel
theorem dX7_weighState_43 : decode cX7_weighState 43 = .ok (.ireturn, 1) := by decide +kernel
theorem dX7_valueOf_0 : decode cX7_valueOf 0 = .ok (.aload_n 0, 1) := by decide +kernel
theorem dX7_valueOf_1 : decode cX7_valueOf 1 = .ok (.getfield 30, 3) := by decide +kernel
theorem dX7_valueOf_4 : decode cX7_valueOf 4 = .ok (.iload_n 3, 1) := by decide +kernel
theorem dX7_valueOf_5 : decode cX7_valueOf 5 = .ok (.iaload, 1) := by decide +kernel
theorem dX7_valueOf_6 : decode cX7_valueOf 6 = .ok (.aload_n 0, 1) := by decide +kernel
theorem dX7_valueOf_7 : decode cX7_valueOf 7 = .ok (.getfield 33, 3) := by decide +kernel
theorem dX7_valueOf_10 : decode cX7_valueOf 10 = .ok (.iload_n 1, 1) := by decide +kernel
theorem dX7_valueOf_11 : decode cX7_valueOf 11 = .ok (.iconst 1, 1) := by decide +kernel
theorem dX7_valueOf_12 : decode cX7_valueOf 12 = .ok (.iload_n 3, 1) := by decide +kernel
theorem dX7_valueOf_13 : decode cX7_valueOf 13 = .ok (.ishl, 1) := by decide +kernel
theorem dX7_valueOf_14 : decode cX7_valueOf 14 = .ok (.ior, 1) := by decide +kernel
theorem dX7_valueOf_15 : decode cX7_valueOf 15 = .ok (.bipush 8, 2) := by decide +kernel
theorem dX7_valueOf_17 : decode cX7_valueOf 17 = .ok (.imul, 1) := by decide +kernel
theorem dX7_valueOf_18 : decode cX7_valueOf 18 = .ok (.iload_n 3, 1) := by decide +kernel
theorem dX7_valueOf_19 : decode cX7_valueOf 19 = .ok (.iadd, 1) := by decide +kernel
theorem dX7_valueOf_20 : decode cX7_valueOf 20 = .ok (.iaload, 1) := by decide +kernel
theorem dX7_valueOf_21 : decode cX7_valueOf 21 = .ok (.iadd, 1) := by decide +kernel
theorem dX7_valueOf_22 : decode cX7_valueOf 22 = .ok (.istore 4, 2) := by decide +kernel
theorem dX7_valueOf_24 : decode cX7_valueOf 24 = .ok (.iload_n 1, 1) := by decide +kernel
theorem dX7_valueOf_25 : decode cX7_valueOf 25 = .ok (.ifCond .ne 8, 3) := by decide +kernel
theorem dX7_valueOf_28 : decode cX7_valueOf 28 = .ok (.iload 4, 2) := by decide +kernel
theorem dX7_valueOf_30 : decode cX7_valueOf 30 = .ok (.goto 17, 3) := by decide +kernel
theorem dX7_valueOf_33 : decode cX7_valueOf 33 = .ok (.iload 4, 2) := by decide +kernel
theorem dX7_valueOf_35 : decode cX7_valueOf 35 = .ok (.aload_n 0, 1) := by decide +kernel
theorem dX7_valueOf_36 : decode cX7_valueOf 36 = .ok (.getfield 21, 3) := by decide +kernel
theorem dX7_valueOf_39 : decode cX7_valueOf 39 = .ok (.iload_n 2, 1) := by decide +kernel
theorem dX7_valueOf_40 : decode cX7_valueOf 40 = .ok (.bipush 8, 2) := by decide +kernel
theorem dX7_valueOf_42 : decode cX7_valueOf 42 = .ok (.imul, 1) := by decide +kernel
theorem dX7_valueOf_43 : decode cX7_valueOf 43 = .ok (.iload_n 3, 1) := by decide +kernel
theorem dX7_valueOf_44 : decode cX7_valueOf 44 = .ok (.iadd, 1) := by decide +kernel
theorem dX7_valueOf_45 : decode cX7_valueOf 45 = .ok (.iaload, 1) := by decide +kernel
theorem dX7_valueOf_46 : decode cX7_valueOf 46 = .ok (.iadd, 1) := by decide +kernel
theorem dX7_valueOf_47 : decode cX7_valueOf 47 = .ok (.ireturn, 1) := by decide +kernel
theorem dX7_tellRow_0 : decode cX7_tellRow 0 = .ok (.iconst 0, 1) := by decide +kernel
theorem dX7_tellRow_1 : decode cX7_tellRow 1 = .ok (.istore_n 1, 1) := by decide +kernel
theorem dX7_tellRow_2 : decode cX7_tellRow 2 = .ok (.iconst 0, 1) := by decide +kernel
theorem dX7_tellRow_3 : decode cX7_tellRow 3 = .ok (.istore_n 2, 1) := by decide +kernel
theorem dX7_tellRow_4 : decode cX7_tellRow 4 = .ok (.iconst 0, 1) := by decide +kernel
theorem dX7_tellRow_5 : decode cX7_tellRow 5 = .ok (.istore_n 3, 1) := by decide +kernel
theorem dX7_tellRow_6 : decode cX7_tellRow 6 = .ok (.iload_n 3, 1) := by decide +kernel
theorem dX7_tellRow_7 : decode cX7_tellRow 7 = .ok (.aload_n 0, 1) := by decide +kernel
theorem dX7_tellRow_8 : decode cX7_tellRow 8 = .ok (.getfield 39, 3) := by decide +kernel
theorem dX7_tellRow_11 : decode cX7_tellRow 11 = .ok (.if_icmp .ge 45, 3) := by decide +kernel
theorem dX7_tellRow_14 : decode cX7_tellRow 14 = .ok (.aload_n 0, 1) := by decide +kernel
theorem dX7_tellRow_15 : decode cX7_tellRow 15 = .ok (.iload_n 1, 1) := by decide +kernel
theorem dX7_tellRow_16 : decode cX7_tellRow 16 = .ok (.invokevirtual 89, 3) := by decide +kernel
theorem dX7_tellRow_19 : decode cX7_tellRow 19 = .ok (.aload_n 0, 1) := by decide +kernel
theorem dX7_tellRow_20 : decode cX7_tellRow 20 = .ok (.iload_n 1, 1) := by decide +kernel
theorem dX7_tellRow_21 : decode cX7_tellRow 21 = .ok (.iload_n 2, 1) := by decide +kernel
theorem dX7_tellRow_22 : decode cX7_tellRow 22 = .ok (.invokevirtual 105, 3) := by decide +kernel
theorem dX7_tellRow_25 : decode cX7_tellRow 25 = .ok (.istore 4, 2) := by decide +kernel
theorem dX7_tellRow_27 : decode cX7_tellRow 27 = .ok (.aload_n 0, 1) := by decide +kernel
theorem dX7_tellRow_28 : decode cX7_tellRow 28 = .ok (.getfield 36, 3) := by decide +kernel
theorem dX7_tellRow_31 : decode cX7_tellRow 31 = .ok (.iload_n 3, 1) := by decide +kernel
theorem dX7_tellRow_32 : decode cX7_tellRow 32 = .ok (.aload_n 0, 1) := by decide +kernel
theorem dX7_tellRow_33 : decode cX7_tellRow 33 = .ok (.getfield 9, 3) := by decide +kernel
theorem dX7_tellRow_36 : decode cX7_tellRow 36 = .ok (.iload 4, 2) := by decide +kernel
theorem dX7_tellRow_38 : decode cX7_tellRow 38 = .ok (.iaload, 1) := by decide +kernel
theorem dX7_tellRow_39 : decode cX7_tellRow 39 = .ok (.iastore, 1) := by decide +kernel
theorem dX7_tellRow_40 : decode cX7_tellRow 40 = .ok (.iload_n 1, 1) := by decide +kernel
theorem dX7_tellRow_41 : decode cX7_tellRow 41 = .ok (.iconst 1, 1) := by decide +kernel
theorem dX7_tellRow_42 : decode cX7_tellRow 42 = .ok (.iload 4, 2) := by decide +kernel
theorem dX7_tellRow_44 : decode cX7_tellRow 44 = .ok (.ishl, 1) := by decide +kernel
theorem dX7_tellRow_45 : decode cX7_tellRow 45 = .ok (.ior, 1) := by decide +kernel
theorem dX7_tellRow_46 : decode cX7_tellRow 46 = .ok (.istore_n 1, 1) := by decide +kernel
theorem dX7_tellRow_47 : decode cX7_tellRow 47 = .ok (.iload 4, 2) := by decide +kernel
theorem dX7_tellRow_49 : decode cX7_tellRow 49 = .ok (.istore_n 2, 1) := by decide +kernel
theorem dX7_tellRow_50 : decode cX7_tellRow 50 = .ok (.iinc 3 1, 3) := by decide +kernel
theorem dX7_tellRow_53 : decode cX7_tellRow 53 = .ok (.goto (-47), 3) := by decide +kernel
theorem dX7_tellRow_56 : decode cX7_tellRow 56 = .ok (.return_, 1) := by decide +kernel
theorem dX7_firstBest_0 : decode cX7_firstBest 0 = .ok (.aload_n 0, 1) := by decide +kernel
theorem dX7_firstBest_1 : decode cX7_firstBest 1 = .ok (.iload_n 1, 1) := by decide +kernel
theorem dX7_firstBest_2 : decode cX7_firstBest 2 = .ok (.iload_n 2, 1) := by decide +kernel
theorem dX7_firstBest_3 : decode cX7_firstBest 3 = .ok (.invokevirtual 92, 3) := by decide +kernel
theorem dX7_firstBest_6 : decode cX7_firstBest 6 = .ok (.istore_n 3, 1) := by decide +kernel
theorem dX7_firstBest_7 : decode cX7_firstBest 7 = .ok (.iconst 0, 1) := by decide +kernel
theorem dX7_firstBest_8 : decode cX7_firstBest 8 = .ok (.istore 4, 2) := by decide +kernel
theorem dX7_firstBest_10 : decode cX7_firstBest 10 = .ok (.iload 4, 2) := by decide +kernel
theorem dX7_firstBest_12 : decode cX7_firstBest 12 = .ok (.aload_n 0, 1) := by decide +kernel
theorem dX7_firstBest_13 : decode cX7_firstBest 13 = .ok (.getfield 39, 3) := by decide +kernel
theorem dX7_firstBest_16 : decode cX7_firstBest 16 = .ok (.if_icmp .ge 33, 3) := by decide +kernel
theorem dX7_firstBest_19 : decode cX7_firstBest 19 = .ok (.iload_n 1, 1) := by decide +kernel
theorem dX7_firstBest_20 : decode cX7_firstBest 20 = .ok (.iload 4, 2) := by decide +kernel
theorem dX7_firstBest_22 : decode cX7_firstBest 22 = .ok (.ishr, 1) := by decide +kernel
theorem dX7_firstBest_23 : decode cX7_firstBest 23 = .ok (.iconst 1, 1) := by decide +kernel
theorem dX7_firstBest_24 : decode cX7_firstBest 24 = .ok (.iand, 1) := by decide +kernel
theorem dX7_firstBest_25 : decode cX7_firstBest 25 = .ok (.ifCond .ne 18, 3) := by decide +kernel
theorem dX7_firstBest_28 : decode cX7_firstBest 28 = .ok (.aload_n 0, 1) := by decide +kernel
theorem dX7_firstBest_29 : decode cX7_firstBest 29 = .ok (.iload_n 1, 1) := by decide +kernel
theorem dX7_firstBest_30 : decode cX7_firstBest 30 = .ok (.iload_n 2, 1) := by decide +kernel
theorem dX7_firstBest_31 : decode cX7_firstBest 31 = .ok (.iload 4, 2) := by decide +kernel
theorem dX7_firstBest_33 : decode cX7_firstBest 33 = .ok (.invokevirtual 96, 3) := by decide +kernel
theorem dX7_firstBest_36 : decode cX7_firstBest 36 = .ok (.iload_n 3, 1) := by decide +kernel
theorem dX7_firstBest_37 : decode cX7_firstBest 37 = .ok (.if_icmp .ne 6, 3) := by decide +kernel
theorem dX7_firstBest_40 : decode cX7_firstBest 40 = .ok (.iload 4, 2) := by decide +kernel
theorem dX7_firstBest_42 : decode cX7_firstBest 42 = .ok (.ireturn, 1) := by decide +kernel
theorem dX7_firstBest_43 : decode cX7_firstBest 43 = .ok (.iinc 4 1, 3) := by decide +kernel
theorem dX7_firstBest_46 : decode cX7_firstBest 46 = .ok (.goto (-36), 3) := by decide +kernel
theorem dX7_firstBest_49 : decode cX7_firstBest 49 = .ok (.iconst 0, 1) := by decide +kernel
theorem dX7_firstBest_50 : decode cX7_firstBest 50 = .ok (.ireturn, 1) := by decide +kernel
theorem dX8_init_0 : decode cX8_init 0 = .ok (.aload_n 0, 1) := by decide +kernel
theorem dX8_init_1 : decode cX8_init 1 = .ok (.invokespecial 3, 3) := by decide +kernel
theorem dX8_init_4 : decode cX8_init 4 = .ok (.aload_n 0, 1) := by decide +kernel
theorem dX8_init_5 : decode cX8_init 5 = .ok (.aconst_null, 1) := by decide +kernel
theorem dX8_init_6 : decode cX8_init 6 = .ok (.putfield 9, 3) := by decide +kernel
theorem dX8_init_9 : decode cX8_init 9 = .ok (.aload_n 0, 1) := by decide +kernel
theorem dX8_init_10 : decode cX8_init 10 = .ok (.aconst_null, 1) := by decide +kernel
theorem dX8_init_11 : decode cX8_init 11 = .ok (.putfield 13, 3) := by decide +kernel
theorem dX8_init_14 : decode cX8_init 14 = .ok (.aload_n 0, 1) := by decide +kernel
theorem dX8_init_15 : decode cX8_init 15 = .ok (.new 17, 3) := by decide +kernel
theorem dX8_init_18 : decode cX8_init 18 = .ok (.dup, 1) := by decide +kernel
theorem dX8_init_19 : decode cX8_init 19 = .ok (.invokespecial 19, 3) := by decide +kernel
theorem dX8_init_22 : decode cX8_init 22 = .ok (.putfield 20, 3) := by decide +kernel
theorem dX8_init_25 : decode cX8_init 25 = .ok (.aload_n 0, 1) := by decide +kernel
theorem dX8_init_26 : decode cX8_init 26 = .ok (.bipush 16, 2) := by decide +kernel
theorem dX8_init_28 : decode cX8_init 28 = .ok (.anewarray 24, 3) := by decide +kernel
theorem dX8_init_31 : decode cX8_init 31 = .ok (.putfield 26, 3) := by decide +kernel
theorem dX8_init_34 : decode cX8_init 34 = .ok (.iconst 0, 1) := by decide +kernel
theorem dX8_init_35 : decode cX8_init 35 = .ok (.istore_n 1, 1) := by decide +kernel
theorem dX8_init_36 : decode cX8_init 36 = .ok (.iload_n 1, 1) := by decide +kernel
theorem dX8_init_37 : decode cX8_init 37 = .ok (.aload_n 0, 1) := by decide +kernel
theorem dX8_init_38 : decode cX8_init 38 = .ok (.getfield 26, 3) := by decide +kernel
theorem dX8_init_41 : decode cX8_init 41 = .ok (.arraylength, 1) := by decide +kernel
theorem dX8_init_42 : decode cX8_init 42 = .ok (.if_icmp .ge 22, 3) := by decide +kernel
theorem dX8_init_45 : decode cX8_init 45 = .ok (.aload_n 0, 1) := by decide +kernel
theorem dX8_init_46 : decode cX8_init 46 = .ok (.getfield 26, 3) := by decide +kernel
theorem dX8_init_49 : decode cX8_init 49 = .ok (.iload_n 1, 1) := by decide +kernel
theorem dX8_init_50 : decode cX8_init 50 = .ok (.new 24, 3) := by decide +kernel
theorem dX8_init_53 : decode cX8_init 53 = .ok (.dup, 1) := by decide +kernel
theorem dX8_init_54 : decode cX8_init 54 = .ok (.invokespecial 30, 3) := by decide +kernel
theorem dX8_init_57 : decode cX8_init 57 = .ok (.aastore, 1) := by decide +kernel
theorem dX8_init_58 : decode cX8_init 58 = .ok (.iinc 1 1, 3) := by decide +kernel
theorem dX8_init_61 : decode cX8_init 61 = .ok (.goto (-25), 3) := by decide +kernel
theorem dX8_init_64 : decode cX8_init 64 = .ok (.aload_n 0, 1) := by decide +kernel
theorem dX8_init_65 : decode cX8_init 65 = .ok (.new 31, 3) := by decide +kernel
theorem dX8_init_68 : decode cX8_init 68 = .ok (.dup, 1) := by decide +kernel
theorem dX8_init_69 : decode cX8_init 69 = .ok (.invokespecial 33, 3) := by decide +kernel
theorem dX8_init_72 : decode cX8_init 72 = .ok (.putfield 34, 3) := by decide +kernel
theorem dX8_init_75 : decode cX8_init 75 = .ok (.aload_n 0, 1) := by decide +kernel
theorem dX8_init_76 : decode cX8_init 76 = .ok (.new 31, 3) := by decide +kernel
theorem dX8_init_79 : decode cX8_init 79 = .ok (.dup, 1) := by decide +kernel
theorem dX8_init_80 : decode cX8_init 80 = .ok (.invokespecial 33, 3) := by decide +kernel
theorem dX8_init_83 : decode cX8_init 83 = .ok (.putfield 38, 3) := by decide +kernel
theorem dX8_init_86 : decode cX8_init 86 = .ok (.aload_n 0, 1) := by decide +kernel
theorem dX8_init_87 : decode cX8_init 87 = .ok (.new 41, 3) := by decide +kernel
theorem dX8_init_90 : decode cX8_init 90 = .ok (.dup, 1) := by decide +kernel
theorem dX8_init_91 : decode cX8_init 91 = .ok (.invokespecial 43, 3) := by decide +kernel
theorem dX8_init_94 : decode cX8_init 94 = .ok (.putfield 44, 3) := by decide +kernel
theorem dX8_init_97 : decode cX8_init 97 = .ok (.aload_n 0, 1) := by decide +kernel
theorem dX8_init_98 : decode cX8_init 98 = .ok (.new 48, 3) := by decide +kernel
theorem dX8_init_101 : decode cX8_init 101 = .ok (.dup, 1) := by decide +kernel
theorem dX8_init_102 : decode cX8_init 102 = .ok (.invokespecial 50, 3) := by decide +kernel
theorem dX8_init_105 : decode cX8_init 105 = .ok (.putfield 51, 3) := by decide +kernel
theorem dX8_init_108 : decode cX8_init 108 = .ok (.aload_n 0, 1) := by decide +kernel
theorem dX8_init_109 : decode cX8_init 109 = .ok (.new 55, 3) := by decide +kernel
theorem dX8_init_112 : decode cX8_init 112 = .ok (.dup, 1) := by decide +kernel
theorem dX8_init_113 : decode cX8_init 113 = .ok (.invokespecial 57, 3) := by decide +kernel
theorem dX8_init_116 : decode cX8_init 116 = .ok (.putfield 58, 3) := by decide +kernel
theorem dX8_init_119 : decode cX8_init 119 = .ok (.aload_n 0, 1) := by decide +kernel
theorem dX8_init_120 : decode cX8_init 120 = .ok (.bipush 7, 2) := by decide +kernel
theorem dX8_init_122 : decode cX8_init 122 = .ok (.newarray .int, 2) := by decide +kernel
theorem dX8_init_124 : decode cX8_init 124 = .ok (.putfield 62, 3) := by decide +kernel
theorem dX8_init_127 : decode cX8_init 127 = .ok (.return_, 1) := by decide +kernel
theorem dX8_means_0 : decode cX8_means 0 = .ok (.iload_n 1, 1) := by decide +kernel
theorem dX8_means_1 : decode cX8_means 1 = .ok (.invokestatic 66, 3) := by decide +kernel
theorem dX8_means_4 : decode cX8_means 4 = .ok (.ifCond .eq 10, 3) := by decide +kernel
theorem dX8_means_7 : decode cX8_means 7 = .ok (.iload_n 2, 1) := by decide +kernel
theorem dX8_means_8 : decode cX8_means 8 = .ok (.invokestatic 66, 3) := by decide +kernel
theorem dX8_means_11 : decode cX8_means 11 = .ok (.ifCond .ne 9, 3) := by decide +kernel
theorem dX8_means_14 : decode cX8_means 14 = .ok (.aload_n 0, 1) := by decide +kernel
theorem dX8_means_15 : decode cX8_means 15 = .ok (.iconst (-1), 1) := by decide +kernel
theorem dX8_means_16 : decode cX8_means 16 = .ok (.invokevirtual 70, 3) := by decide +kernel
theorem dX8_means_19 : decode cX8_means 19 = .ok (.ireturn, 1) := by decide +kernel
theorem dX8_means_20 : decode cX8_means 20 = .ok (.iload_n 2, 1) := by decide +kernel
theorem dX8_means_21 : decode cX8_means 21 = .ok (.iload_n 1, 1) := by decide +kernel
theorem dX8_means_22 : decode cX8_means 22 = .ok (.if_icmp .le 10, 3) := by decide +kernel
theorem dX8_means_25 : decode cX8_means 25 = .ok (.aload_n 0, 1) := by decide +kernel
theorem dX8_means_26 : decode cX8_means 26 = .ok (.bipush (-4), 2) := by decide +kernel
theorem dX8_means_28 : decode cX8_means 28 = .ok (.invokevirtual 70, 3) := by decide +kernel
theorem dX8_means_31 : decode cX8_means 31 = .ok (.ireturn, 1) := by decide +kernel
theorem dX8_means_32 : decode cX8_means 32 = .ok (.aload_n 0, 1) := by decide +kernel
theorem dX8_means_33 : decode cX8_means 33 = .ok (.getfield 20, 3) := by decide +kernel
theorem dX8_means_36 : decode cX8_means 36 = .ok (.iload_n 1, 1) := by decide +kernel
theorem dX8_means_37 : decode cX8_means 37 = .ok (.iload_n 2, 1) := by decide +kernel
theorem dX8_means_38 : decode cX8_means 38 = .ok (.invokevirtual 74, 3) := by decide +kernel
theorem dX8_means_41 : decode cX8_means 41 = .ok (.ireturn, 1) := by decide +kernel
theorem dX8_sense_0 : decode cX8_sense 0 = .ok (.iload_n 1, 1) := by decide +kernel
theorem dX8_sense_1 : decode cX8_sense 1 = .ok (.invokestatic 66, 3) := by decide +kernel
theorem dX8_sense_4 : decode cX8_sense 4 = .ok (.ifCond .ne 9, 3) := by decide +kernel
theorem dX8_sense_7 : decode cX8_sense 7 = .ok (.aload_n 0, 1) := by decide +kernel
theorem dX8_sense_8 : decode cX8_sense 8 = .ok (.iconst (-1), 1) := by decide +kernel
theorem dX8_sense_9 : decode cX8_sense 9 = .ok (.invokevirtual 70, 3) := by decide +kernel
theorem dX8_sense_12 : decode cX8_sense 12 = .ok (.ireturn, 1) := by decide +kernel
theorem dX8_sense_13 : decode cX8_sense 13 = .ok (.aload_n 0, 1) := by decide +kernel
theorem dX8_sense_14 : decode cX8_sense 14 = .ok (.getfield 20, 3) := by decide +kernel
theorem dX8_sense_17 : decode cX8_sense 17 = .ok (.getfield 78, 3) := by decide +kernel
theorem dX8_sense_20 : decode cX8_sense 20 = .ok (.iload_n 1, 1) := by decide +kernel
theorem dX8_sense_21 : decode cX8_sense 21 = .ok (.iaload, 1) := by decide +kernel
theorem dX8_sense_22 : decode cX8_sense 22 = .ok (.ireturn, 1) := by decide +kernel
theorem dX8_year_0 : decode cX8_year 0 = .ok (.iload_n 1, 1) := by decide +kernel
theorem dX8_year_1 : decode cX8_year 1 = .ok (.invokestatic 81, 3) := by decide +kernel
theorem dX8_year_4 : decode cX8_year 4 = .ok (.ifCond .ne 9, 3) := by decide +kernel
theorem dX8_year_7 : decode cX8_year 7 = .ok (.aload_n 0, 1) := by decide +kernel
theorem dX8_year_8 : decode cX8_year 8 = .ok (.iconst (-1), 1) := by decide +kernel
theorem dX8_year_9 : decode cX8_year 9 = .ok (.invokevirtual 70, 3) := by decide +kernel
theorem dX8_year_12 : decode cX8_year 12 = .ok (.ireturn, 1) := by decide +kernel
theorem dX8_year_13 : decode cX8_year 13 = .ok (.iload_n 2, 1) := by decide +kernel
theorem dX8_year_14 : decode cX8_year 14 = .ok (.sipush 1500, 3) := by decide +kernel
theorem dX8_year_17 : decode cX8_year 17 = .ok (.if_icmp .ge 10, 3) := by decide +kernel
theorem dX8_year_20 : decode cX8_year 20 = .ok (.aload_n 0, 1) := by decide +kernel
theorem dX8_year_21 : decode cX8_year 21 = .ok (.bipush (-4), 2) := by decide +kernel
theorem dX8_year_23 : decode cX8_year 23 = .ok (.invokevirtual 70, 3) := by decide +kernel
theorem dX8_year_26 : decode cX8_year 26 = .ok (.ireturn, 1) := by decide +kernel
theorem dX8_year_27 : decode cX8_year 27 = .ok (.iload_n 2, 1) := by decide +kernel
theorem dX8_year_28 : decode cX8_year 28 = .ok (.sipush 1900, 3) := by decide +kernel
theorem dX8_year_31 : decode cX8_year 31 = .ok (.if_icmp .le 10, 3) := by decide +kernel
theorem dX8_year_34 : decode cX8_year 34 = .ok (.aload_n 0, 1) := by decide +kernel
theorem dX8_year_35 : decode cX8_year 35 = .ok (.bipush (-6), 2) := by decide +kernel
theorem dX8_year_37 : decode cX8_year 37 = .ok (.invokevirtual 70, 3) := by decide +kernel
theorem dX8_year_40 : decode cX8_year 40 = .ok (.ireturn, 1) := by decide +kernel
theorem dX8_year_41 : decode cX8_year 41 = .ok (.aload_n 0, 1) := by decide +kernel
theorem dX8_year_42 : decode cX8_year 42 = .ok (.getfield 20, 3) := by decide +kernel
theorem dX8_year_45 : decode cX8_year 45 = .ok (.iload_n 1, 1) := by decide +kernel
theorem dX8_year_46 : decode cX8_year 46 = .ok (.iload_n 2, 1) := by decide +kernel
theorem dX8_year_47 : decode cX8_year 47 = .ok (.invokevirtual 84, 3) := by decide +kernel
theorem dX8_year_50 : decode cX8_year 50 = .ok (.ireturn, 1) := by decide +kernel
theorem dX8_entry_0 : decode cX8_entry 0 = .ok (.iload_n 1, 1) := by decide +kernel
theorem dX8_entry_1 : decode cX8_entry 1 = .ok (.invokestatic 81, 3) := by decide +kernel
theorem dX8_entry_4 : decode cX8_entry 4 = .ok (.ifCond .eq 12, 3) := by decide +kernel
theorem dX8_entry_7 : decode cX8_entry 7 = .ok (.iload_n 2, 1) := by decide +kernel
theorem dX8_entry_8 : decode cX8_entry 8 = .ok (.bipush 20, 2) := by decide +kernel
theorem dX8_entry_10 : decode cX8_entry 10 = .ok (.invokestatic 87, 3) := by decide +kernel
theorem dX8_entry_13 : decode cX8_entry 13 = .ok (.ifCond .eq 9, 3) := by decide +kernel
theorem dX8_entry_16 : decode cX8_entry 16 = .ok (.aload_n 0, 1) := by decide +kernel
theorem dX8_entry_17 : decode cX8_entry 17 = .ok (.iconst (-1), 1) := by decide +kernel
theorem dX8_entry_18 : decode cX8_entry 18 = .ok (.invokevirtual 70, 3) := by decide +kernel
theorem dX8_entry_21 : decode cX8_entry 21 = .ok (.ireturn, 1) := by decide +kernel
theorem dX8_entry_22 : decode cX8_entry 22 = .ok (.iload_n 2, 1) := by decide +kernel
theorem dX8_entry_23 : decode cX8_entry 23 = .ok (.ifCond .eq 18, 3) := by decide +kernel
theorem dX8_entry_26 : decode cX8_entry 26 = .ok (.iload_n 3, 1) := by decide +kernel
theorem dX8_entry_27 : decode cX8_entry 27 = .ok (.iconst 1, 1) := by decide +kernel
theorem dX8_entry_28 : decode cX8_entry 28 = .ok (.if_icmp .lt 13, 3) := by decide +kernel
theorem dX8_entry_31 : decode cX8_entry 31 = .ok (.iload 4, 2) := by decide +kernel
theorem dX8_entry_33 : decode cX8_entry 33 = .ok (.ifCond .lt 8, 3) := by decide +kernel
theorem dX8_entry_36 : decode cX8_entry 36 = .ok (.iload 5, 2) := by decide +kernel
theorem dX8_entry_38 : decode cX8_entry 38 = .ok (.ifCond .ge 10, 3) := by decide +kernel
theorem dX8_entry_41 : decode cX8_entry 41 = .ok (.aload_n 0, 1) := by decide +kernel
theorem dX8_entry_42 : decode cX8_entry 42 = .ok (.bipush (-4), 2) := by decide +kernel
theorem dX8_entry_44 : decode cX8_entry 44 = .ok (.invokevirtual 70, 3) := by decide +kernel
theorem dX8_entry_47 : decode cX8_entry 47 = .ok (.ireturn, 1) := by decide +kernel
theorem dX8_entry_48 : decode cX8_entry 48 = .ok (.iload_n 3, 1) := by decide +kernel
theorem dX8_entry_49 : decode cX8_entry 49 = .ok (.sipush 200, 3) := by decide +kernel
theorem dX8_entry_52 : decode cX8_entry 52 = .ok (.if_icmp .gt 31, 3) := by decide +kernel
theorem dX8_entry_55 : decode cX8_entry 55 = .ok (.iload 4, 2) := by decide +kernel
theorem dX8_entry_57 : decode cX8_entry 57 = .ok (.bipush 9, 2) := by decide +kernel
theorem dX8_entry_59 : decode cX8_entry 59 = .ok (.if_icmp .gt 24, 3) := by decide +kernel
theorem dX8_entry_62 : decode cX8_entry 62 = .ok (.iload 5, 2) := by decide +kernel
theorem dX8_entry_64 : decode cX8_entry 64 = .ok (.bipush 99, 2) := by decide +kernel
theorem dX8_entry_66 : decode cX8_entry 66 = .ok (.if_icmp .gt 17, 3) := by decide +kernel
theorem dX8_entry_69 : decode cX8_entry 69 = .ok (.aload_n 0, 1) := by decide +kernel
theorem dX8_entry_70 : decode cX8_entry 70 = .ok (.getfield 20, 3) := by decide +kernel
theorem dX8_entry_73 : decode cX8_entry 73 = .ok (.getfield 91, 3) := by decide +kernel
theorem dX8_entry_76 : decode cX8_entry 76 = .ok (.iload_n 1, 1) := by decide +kernel
theorem dX8_entry_77 : decode cX8_entry 77 = .ok (.iaload, 1) := by decide +kernel
theorem dX8_entry_78 : decode cX8_entry 78 = .ok (.bipush 10, 2) := by decide +kernel
theorem dX8_entry_80 : decode cX8_entry 80 = .ok (.if_icmp .lt 10, 3) := by decide +kernel
theorem dX8_entry_83 : decode cX8_entry 83 = .ok (.aload_n 0, 1) := by decide +kernel
theorem dX8_entry_84 : decode cX8_entry 84 = .ok (.bipush (-6), 2) := by decide +kernel
theorem dX8_entry_86 : decode cX8_entry 86 = .ok (.invokevirtual 70, 3) := by decide +kernel
theorem dX8_entry_89 : decode cX8_entry 89 = .ok (.ireturn, 1) := by decide +kernel
theorem dX8_entry_90 : decode cX8_entry 90 = .ok (.aload_n 0, 1) := by decide +kernel
theorem dX8_entry_91 : decode cX8_entry 91 = .ok (.getfield 20, 3) := by decide +kernel
theorem dX8_entry_94 : decode cX8_entry 94 = .ok (.iload_n 1, 1) := by decide +kernel
theorem dX8_entry_95 : decode cX8_entry 95 = .ok (.iload_n 2, 1) := by decide +kernel
theorem dX8_entry_96 : decode cX8_entry 96 = .ok (.iload_n 3, 1) := by decide +kernel
theorem dX8_entry_97 : decode cX8_entry 97 = .ok (.iload 4, 2) := by decide +kernel
theorem dX8_entry_99 : decode cX8_entry 99 = .ok (.iload 5, 2) := by decide +kernel
theorem dX8_entry_101 : decode cX8_entry 101 = .ok (.invokevirtual 94, 3) := by decide +kernel
theorem dX8_entry_104 : decode cX8_entry 104 = .ok (.ireturn, 1) := by decide +kernel
theorem dX8_set_0 : decode cX8_set 0 = .ok (.iload_n 1, 1) := by decide +kernel
theorem dX8_set_1 : decode cX8_set 1 = .ok (.ifCond .eq 15, 3) := by decide +kernel
theorem dX8_set_4 : decode cX8_set 4 = .ok (.iload_n 1, 1) := by decide +kernel
theorem dX8_set_5 : decode cX8_set 5 = .ok (.iconst 1, 1) := by decide +kernel
theorem dX8_set_6 : decode cX8_set 6 = .ok (.if_icmp .eq 10, 3) := by decide +kernel
theorem dX8_set_9 : decode cX8_set 9 = .ok (.aload_n 0, 1) := by decide +kernel
theorem dX8_set_10 : decode cX8_set 10 = .ok (.bipush (-2), 2) := by decide +kernel
theorem dX8_set_12 : decode cX8_set 12 = .ok (.invokevirtual 70, 3) := by decide +kernel
theorem dX8_set_15 : decode cX8_set 15 = .ok (.ireturn, 1) := by decide +kernel
theorem dX8_set_16 : decode cX8_set 16 = .ok (.iload_n 2, 1) := by decide +kernel
theorem dX8_set_17 : decode cX8_set 17 = .ok (.ifCond .ge 10, 3) := by decide +kernel
theorem dX8_set_20 : decode cX8_set 20 = .ok (.aload_n 0, 1) := by decide +kernel
theorem dX8_set_21 : decode cX8_set 21 = .ok (.bipush (-4), 2) := by decide +kernel
theorem dX8_set_23 : decode cX8_set 23 = .ok (.invokevirtual 70, 3) := by decide +kernel
theorem dX8_set_26 : decode cX8_set 26 = .ok (.ireturn, 1) := by decide +kernel
theorem dX8_set_27 : decode cX8_set 27 = .ok (.iload_n 2, 1) := by decide +kernel
theorem dX8_set_28 : decode cX8_set 28 = .ok (.iload_n 1, 1) := by decide +kernel
theorem dX8_set_29 : decode cX8_set 29 = .ok (.ifCond .ne 8, 3) := by decide +kernel
theorem dX8_set_32 : decode cX8_set 32 = .ok (.bipush 50, 2) := by decide +kernel
theorem dX8_set_34 : decode cX8_set 34 = .ok (.goto 5, 3) := by decide +kernel
theorem dX8_set_37 : decode cX8_set 37 = .ok (.bipush 9, 2) := by decide +kernel
theorem dX8_set_39 : decode cX8_set 39 = .ok (.if_icmp .le 10, 3) := by decide +kernel
theorem dX8_set_42 : decode cX8_set 42 = .ok (.aload_n 0, 1) := by decide +kernel
theorem dX8_set_43 : decode cX8_set 43 = .ok (.bipush (-6), 2) := by decide +kernel
theorem dX8_set_45 : decode cX8_set 45 = .ok (.invokevirtual 70, 3) := by decide +kernel
theorem dX8_set_48 : decode cX8_set 48 = .ok (.ireturn, 1) := by decide +kernel
theorem dX8_set_49 : decode cX8_set 49 = .ok (.iload_n 1, 1) := by decide +kernel
theorem dX8_set_50 : decode cX8_set 50 = .ok (.ifCond .ne 14, 3) := by decide +kernel
theorem dX8_set_53 : decode cX8_set 53 = .ok (.aload_n 0, 1) := by decide +kernel
theorem dX8_set_54 : decode cX8_set 54 = .ok (.getfield 20, 3) := by decide +kernel
theorem dX8_set_57 : decode cX8_set 57 = .ok (.iload_n 2, 1) := by decide +kernel
theorem dX8_set_58 : decode cX8_set 58 = .ok (.invokevirtual 98, 3) := by decide +kernel
theorem dX8_set_61 : decode cX8_set 61 = .ok (.goto 11, 3) := by decide +kernel
theorem dX8_set_64 : decode cX8_set 64 = .ok (.aload_n 0, 1) := by decide +kernel
theorem dX8_set_65 : decode cX8_set 65 = .ok (.getfield 20, 3) := by decide +kernel
theorem dX8_set_68 : decode cX8_set 68 = .ok (.iload_n 2, 1) := by decide +kernel
theorem dX8_set_69 : decode cX8_set 69 = .ok (.invokevirtual 101, 3) := by decide +kernel
theorem dX8_set_72 : decode cX8_set 72 = .ok (.ireturn, 1) := by decide +kernel
theorem dX8_bar_0 : decode cX8_bar 0 = .ok (.iload_n 1, 1) := by decide +kernel
theorem dX8_bar_1 : decode cX8_bar 1 = .ok (.iload_n 3, 1) := by decide +kernel
theorem dX8_bar_2 : decode cX8_bar 2 = .ok (.invokestatic 104, 3) := by decide +kernel
theorem dX8_bar_5 : decode cX8_bar 5 = .ok (.ifCond .eq 22, 3) := by decide +kernel
theorem dX8_bar_8 : decode cX8_bar 8 = .ok (.aload_n 0, 1) := by decide +kernel
theorem dX8_bar_9 : decode cX8_bar 9 = .ok (.iload_n 1, 1) := by decide +kernel
theorem dX8_bar_10 : decode cX8_bar 10 = .ok (.iload_n 2, 1) := by decide +kernel
theorem dX8_bar_11 : decode cX8_bar 11 = .ok (.invokevirtual 107, 3) := by decide +kernel
theorem dX8_bar_14 : decode cX8_bar 14 = .ok (.ifCond .eq 13, 3) := by decide +kernel
theorem dX8_bar_17 : decode cX8_bar 17 = .ok (.aload_n 0, 1) := by decide +kernel
theorem dX8_bar_18 : decode cX8_bar 18 = .ok (.iload_n 3, 1) := by decide +kernel
theorem dX8_bar_19 : decode cX8_bar 19 = .ok (.iload 4, 2) := by decide +kernel
theorem dX8_bar_21 : decode cX8_bar 21 = .ok (.invokevirtual 107, 3) := by decide +kernel
theorem dX8_bar_24 : decode cX8_bar 24 = .ok (.ifCond .ne 9, 3) := by decide +kernel
theorem dX8_bar_27 : decode cX8_bar 27 = .ok (.aload_n 0, 1) := by decide +kernel
theorem dX8_bar_28 : decode cX8_bar 28 = .ok (.iconst (-1), 1) := by decide +kernel
theorem dX8_bar_29 : decode cX8_bar 29 = .ok (.invokevirtual 70, 3) := by decide +kernel
theorem dX8_bar_32 : decode cX8_bar 32 = .ok (.ireturn, 1) := by decide +kernel
theorem dX8_bar_33 : decode cX8_bar 33 = .ok (.iload_n 1, 1) := by decide +kernel
theorem dX8_bar_34 : decode cX8_bar 34 = .ok (.bipush 10, 2) := by decide +kernel
theorem dX8_bar_36 : decode cX8_bar 36 = .ok (.imul, 1) := by decide +kernel
theorem dX8_bar_37 : decode cX8_bar 37 = .ok (.iload_n 2, 1) := by decide +kernel
theorem dX8_bar_38 : decode cX8_bar 38 = .ok (.iadd, 1) := by decide +kernel
theorem dX8_bar_39 : decode cX8_bar 39 = .ok (.istore 5, 2) := by decide +kernel
theorem dX8_bar_41 : decode cX8_bar 41 = .ok (.iload_n 3, 1) := by decide +kernel
theorem dX8_bar_42 : decode cX8_bar 42 = .ok (.bipush 10, 2) := by decide +kernel
theorem dX8_bar_44 : decode cX8_bar 44 = .ok (.imul, 1) := by decide +kernel
theorem dX8_bar_45 : decode cX8_bar 45 = .ok (.iload 4, 2) := by decide +kernel
theorem dX8_bar_47 : decode cX8_bar 47 = .ok (.iadd, 1) := by decide +kernel
theorem dX8_bar_48 : decode cX8_bar 48 = .ok (.istore 6, 2) := by decide +kernel
theorem dX8_bar_50 : decode cX8_bar 50 = .ok (.aload_n 0, 1) := by decide +kernel
theorem dX8_bar_51 : decode cX8_bar 51 = .ok (.getfield 20, 3) := by decide +kernel
theorem dX8_bar_54 : decode cX8_bar 54 = .ok (.iload 5, 2) := by decide +kernel
theorem dX8_bar_56 : decode cX8_bar 56 = .ok (.iload 6, 2) := by decide +kernel
theorem dX8_bar_58 : decode cX8_bar 58 = .ok (.invokevirtual 110, 3) := by decide +kernel
theorem dX8_bar_61 : decode cX8_bar 61 = .ok (.ifCond .eq 5, 3) := by decide +kernel
theorem dX8_bar_64 : decode cX8_bar 64 = .ok (.iconst 0, 1) := by decide +kernel
theorem dX8_bar_65 : decode cX8_bar 65 = .ok (.ireturn, 1) := by decide +kernel
theorem dX8_bar_66 : decode cX8_bar 66 = .ok (.aload_n 0, 1) := by decide +kernel
theorem dX8_bar_67 : decode cX8_bar 67 = .ok (.getfield 20, 3) := by decide +kernel
theorem dX8_bar_70 : decode cX8_bar 70 = .ok (.getfield 113, 3) := by decide +kernel
theorem dX8_bar_73 : decode cX8_bar 73 = .ok (.bipush 30, 2) := by decide +kernel
theorem dX8_bar_75 : decode cX8_bar 75 = .ok (.if_icmp .lt 10, 3) := by decide +kernel
theorem dX8_bar_78 : decode cX8_bar 78 = .ok (.aload_n 0, 1) := by decide +kernel
theorem dX8_bar_79 : decode cX8_bar 79 = .ok (.bipush (-6), 2) := by decide +kernel
theorem dX8_bar_81 : decode cX8_bar 81 = .ok (.invokevirtual 70, 3) := by decide +kernel
theorem dX8_bar_84 : decode cX8_bar 84 = .ok (.ireturn, 1) := by decide +kernel
theorem dX8_bar_85 : decode cX8_bar 85 = .ok (.aload_n 0, 1) := by decide +kernel
theorem dX8_bar_86 : decode cX8_bar 86 = .ok (.getfield 20, 3) := by decide +kernel
theorem dX8_bar_89 : decode cX8_bar 89 = .ok (.iload 5, 2) := by decide +kernel
theorem dX8_bar_91 : decode cX8_bar 91 = .ok (.iload 6, 2) := by decide +kernel
theorem dX8_bar_93 : decode cX8_bar 93 = .ok (.invokevirtual 117, 3) := by decide +kernel
theorem dX8_bar_96 : decode cX8_bar 96 = .ok (.iconst 1, 1) := by decide +kernel
theorem dX8_bar_97 : decode cX8_bar 97 = .ok (.ireturn, 1) := by decide +kernel
theorem dX8_like_0 : decode cX8_like 0 = .ok (.iload_n 1, 1) := by decide +kernel
theorem dX8_like_1 : decode cX8_like 1 = .ok (.iload_n 3, 1) := by decide +kernel
theorem dX8_like_2 : decode cX8_like 2 = .ok (.invokestatic 104, 3) := by decide +kernel
theorem dX8_like_5 : decode cX8_like 5 = .ok (.ifCond .eq 22, 3) := by decide +kernel
theorem dX8_like_8 : decode cX8_like 8 = .ok (.aload_n 0, 1) := by decide +kernel
theorem dX8_like_9 : decode cX8_like 9 = .ok (.iload_n 1, 1) := by decide +kernel
theorem dX8_like_10 : decode cX8_like 10 = .ok (.iload_n 2, 1) := by decide +kernel
theorem dX8_like_11 : decode cX8_like 11 = .ok (.invokevirtual 107, 3) := by decide +kernel
theorem dX8_like_14 : decode cX8_like 14 = .ok (.ifCond .eq 13, 3) := by decide +kernel
theorem dX8_like_17 : decode cX8_like 17 = .ok (.aload_n 0, 1) := by decide +kernel
theorem dX8_like_18 : decode cX8_like 18 = .ok (.iload_n 3, 1) := by decide +kernel
theorem dX8_like_19 : decode cX8_like 19 = .ok (.iload 4, 2) := by decide +kernel
theorem dX8_like_21 : decode cX8_like 21 = .ok (.invokevirtual 107, 3) := by decide +kernel
theorem dX8_like_24 : decode cX8_like 24 = .ok (.ifCond .ne 9, 3) := by decide +kernel
theorem dX8_like_27 : decode cX8_like 27 = .ok (.aload_n 0, 1) := by decide +kernel
theorem dX8_like_28 : decode cX8_like 28 = .ok (.iconst (-1), 1) := by decide +kernel
theorem dX8_like_29 : decode cX8_like 29 = .ok (.invokevirtual 70, 3) := by decide +kernel
theorem dX8_like_32 : decode cX8_like 32 = .ok (.ireturn, 1) := by decide +kernel
theorem dX8_like_33 : decode cX8_like 33 = .ok (.aload_n 0, 1) := by decide +kernel
theorem dX8_like_34 : decode cX8_like 34 = .ok (.getfield 20, 3) := by decide +kernel
theorem dX8_like_37 : decode cX8_like 37 = .ok (.iload_n 1, 1) := by decide +kernel
theorem dX8_like_38 : decode cX8_like 38 = .ok (.bipush 10, 2) := by decide +kernel
theorem dX8_like_40 : decode cX8_like 40 = .ok (.imul, 1) := by decide +kernel
theorem dX8_like_41 : decode cX8_like 41 = .ok (.iload_n 2, 1) := by decide +kernel
theorem dX8_like_42 : decode cX8_like 42 = .ok (.iadd, 1) := by decide +kernel
theorem dX8_like_43 : decode cX8_like 43 = .ok (.iload_n 3, 1) := by decide +kernel
theorem dX8_like_44 : decode cX8_like 44 = .ok (.bipush 10, 2) := by decide +kernel
theorem dX8_like_46 : decode cX8_like 46 = .ok (.imul, 1) := by decide +kernel
theorem dX8_like_47 : decode cX8_like 47 = .ok (.iload 4, 2) := by decide +kernel
theorem dX8_like_49 : decode cX8_like 49 = .ok (.iadd, 1) := by decide +kernel
theorem dX8_like_50 : decode cX8_like 50 = .ok (.invokevirtual 121, 3) := by decide +kernel
theorem dX8_like_53 : decode cX8_like 53 = .ok (.ireturn, 1) := by decide +kernel
theorem dX8_join_0 : decode cX8_join 0 = .ok (.iload_n 1, 1) := by decide +kernel
theorem dX8_join_1 : decode cX8_join 1 = .ok (.iload_n 2, 1) := by decide +kernel
theorem dX8_join_2 : decode cX8_join 2 = .ok (.invokestatic 104, 3) := by decide +kernel
theorem dX8_join_5 : decode cX8_join 5 = .ok (.ifCond .ne 9, 3) := by decide +kernel
theorem dX8_join_8 : decode cX8_join 8 = .ok (.aload_n 0, 1) := by decide +kernel
theorem dX8_join_9 : decode cX8_join 9 = .ok (.iconst (-1), 1) := by decide +kernel
theorem dX8_join_10 : decode cX8_join 10 = .ok (.invokevirtual 70, 3) := by decide +kernel
theorem dX8_join_13 : decode cX8_join 13 = .ok (.ireturn, 1) := by decide +kernel
theorem dX8_join_14 : decode cX8_join 14 = .ok (.aload_n 0, 1) := by decide +kernel
theorem dX8_join_15 : decode cX8_join 15 = .ok (.iload_n 1, 1) := by decide +kernel
theorem dX8_join_16 : decode cX8_join 16 = .ok (.iload_n 2, 1) := by decide +kernel
theorem dX8_join_17 : decode cX8_join 17 = .ok (.invokevirtual 124, 3) := by decide +kernel
theorem dX8_join_20 : decode cX8_join 20 = .ok (.getfield 128, 3) := by decide +kernel
theorem dX8_join_23 : decode cX8_join 23 = .ok (.ireturn, 1) := by decide +kernel
theorem dX8_joined_0 : decode cX8_joined 0 = .ok (.iload_n 1, 1) := by decide +kernel
theorem dX8_joined_1 : decode cX8_joined 1 = .ok (.iload_n 3, 1) := by decide +kernel
theorem dX8_joined_2 : decode cX8_joined 2 = .ok (.invokestatic 104, 3) := by decide +kernel
theorem dX8_joined_5 : decode cX8_joined 5 = .ok (.ifCond .eq 12, 3) := by decide +kernel
theorem dX8_joined_8 : decode cX8_joined 8 = .ok (.aload_n 0, 1) := by decide +kernel
theorem dX8_joined_9 : decode cX8_joined 9 = .ok (.iload_n 1, 1) := by decide +kernel
theorem dX8_joined_10 : decode cX8_joined 10 = .ok (.iload_n 2, 1) := by decide +kernel
theorem dX8_joined_11 : decode cX8_joined 11 = .ok (.invokevirtual 107, 3) := by decide +kernel
theorem dX8_joined_14 : decode cX8_joined 14 = .ok (.ifCond .ne 9, 3) := by decide +kernel
theorem dX8_joined_17 : decode cX8_joined 17 = .ok (.aload_n 0, 1) := by decide +kernel
theorem dX8_joined_18 : decode cX8_joined 18 = .ok (.iconst (-1), 1) := by decide +kernel
theorem dX8_joined_19 : decode cX8_joined 19 = .ok (.invokevirtual 70, 3) := by decide +kernel
theorem dX8_joined_22 : decode cX8_joined 22 = .ok (.ireturn, 1) := by decide +kernel
theorem dX8_joined_23 : decode cX8_joined 23 = .ok (.aload_n 0, 1) := by decide +kernel
theorem dX8_joined_24 : decode cX8_joined 24 = .ok (.iload_n 1, 1) := by decide +kernel
theorem dX8_joined_25 : decode cX8_joined 25 = .ok (.iload_n 3, 1) := by decide +kernel
theorem dX8_joined_26 : decode cX8_joined 26 = .ok (.invokevirtual 124, 3) := by decide +kernel
theorem dX8_joined_29 : decode cX8_joined 29 = .ok (.getfield 131, 3) := by decide +kernel
theorem dX8_joined_32 : decode cX8_joined 32 = .ok (.iload_n 2, 1) := by decide +kernel
theorem dX8_joined_33 : decode cX8_joined 33 = .ok (.iaload, 1) := by decide +kernel
theorem dX8_joined_34 : decode cX8_joined 34 = .ok (.ireturn, 1) := by decide +kernel
theorem dX8_bests_0 : decode cX8_bests 0 = .ok (.iload_n 1, 1) := by decide +kernel
theorem dX8_bests_1 : decode cX8_bests 1 = .ok (.iload_n 2, 1) := by decide +kernel
theorem dX8_bests_2 : decode cX8_bests 2 = .ok (.invokestatic 104, 3) := by decide +kernel
theorem dX8_bests_5 : decode cX8_bests 5 = .ok (.ifCond .ne 9, 3) := by decide +kernel
theorem dX8_bests_8 : decode cX8_bests 8 = .ok (.aload_n 0, 1) := by decide +kernel
theorem dX8_bests_9 : decode cX8_bests 9 = .ok (.iconst (-1), 1) := by decide +kernel
theorem dX8_bests_10 : decode cX8_bests 10 = .ok (.invokevirtual 70, 3) := by decide +kernel
theorem dX8_bests_13 : decode cX8_bests 13 = .ok (.ireturn, 1) := by decide +kernel
theorem dX8_bests_14 : decode cX8_bests 14 = .ok (.aload_n 0, 1) := by decide +kernel
theorem dX8_bests_15 : decode cX8_bests 15 = .ok (.iload_n 1, 1) := by decide +kernel
theorem dX8_bests_16 : decode cX8_bests 16 = .ok (.iload_n 2, 1) := by decide +kernel
theorem dX8_bests_17 : decode cX8_bests 17 = .ok (.invokevirtual 124, 3) := by decide +kernel
theorem dX8_bests_20 : decode cX8_bests 20 = .ok (.getfield 134, 3) := by decide +kernel
theorem dX8_bests_23 : decode cX8_bests 23 = .ok (.ireturn, 1) := by decide +kernel
theorem dX8_sure_0 : decode cX8_sure 0 = .ok (.iload_n 1, 1) := by decide +kernel
theorem dX8_sure_1 : decode cX8_sure 1 = .ok (.iload_n 3, 1) := by decide +kernel
theorem dX8_sure_2 : decode cX8_sure 2 = .ok (.invokestatic 104, 3) := by decide +kernel
theorem dX8_sure_5 : decode cX8_sure 5 = .ok (.ifCond .eq 12, 3) := by decide +kernel
theorem dX8_sure_8 : decode cX8_sure 8 = .ok (.aload_n 0, 1) := by decide +kernel
theorem dX8_sure_9 : decode cX8_sure 9 = .ok (.iload_n 1, 1) := by decide +kernel
theorem dX8_sure_10 : decode cX8_sure 10 = .ok (.iload_n 2, 1) := by decide +kernel
theorem dX8_sure_11 : decode cX8_sure 11 = .ok (.invokevirtual 107, 3) := by decide +kernel
theorem dX8_sure_14 : decode cX8_sure 14 = .ok (.ifCond .ne 9, 3) := by decide +kernel
theorem dX8_sure_17 : decode cX8_sure 17 = .ok (.aload_n 0, 1) := by decide +kernel
theorem dX8_sure_18 : decode cX8_sure 18 = .ok (.iconst (-1), 1) := by decide +kernel
theorem dX8_sure_19 : decode cX8_sure 19 = .ok (.invokevirtual 70, 3) := by decide +kernel
theorem dX8_sure_22 : decode cX8_sure 22 = .ok (.ireturn, 1) := by decide +kernel
theorem dX8_sure_23 : decode cX8_sure 23 = .ok (.aload_n 0, 1) := by decide +kernel
theorem dX8_sure_24 : decode cX8_sure 24 = .ok (.iload_n 1, 1) := by decide +kernel
theorem dX8_sure_25 : decode cX8_sure 25 = .ok (.iload_n 3, 1) := by decide +kernel
theorem dX8_sure_26 : decode cX8_sure 26 = .ok (.invokevirtual 124, 3) := by decide +kernel
theorem dX8_sure_29 : decode cX8_sure 29 = .ok (.getfield 137, 3) := by decide +kernel
theorem dX8_sure_32 : decode cX8_sure 32 = .ok (.iload_n 2, 1) := by decide +kernel
theorem dX8_sure_33 : decode cX8_sure 33 = .ok (.baload, 1) := by decide +kernel
theorem dX8_sure_34 : decode cX8_sure 34 = .ok (.ifCond .eq 7, 3) := by decide +kernel
theorem dX8_sure_37 : decode cX8_sure 37 = .ok (.iconst 1, 1) := by decide +kernel
theorem dX8_sure_38 : decode cX8_sure 38 = .ok (.goto 4, 3) := by decide +kernel
theorem dX8_sure_41 : decode cX8_sure 41 = .ok (.iconst 0, 1) := by decide +kernel
theorem dX8_sure_42 : decode cX8_sure 42 = .ok (.ireturn, 1) := by decide +kernel
theorem dX8_chain_0 : decode cX8_chain 0 = .ok (.aload_n 0, 1) := by decide +kernel
theorem dX8_chain_1 : decode cX8_chain 1 = .ok (.iload_n 1, 1) := by decide +kernel
theorem dX8_chain_2 : decode cX8_chain 2 = .ok (.iload_n 2, 1) := by decide +kernel
theorem dX8_chain_3 : decode cX8_chain 3 = .ok (.invokevirtual 107, 3) := by decide +kernel
theorem dX8_chain_6 : decode cX8_chain 6 = .ok (.ifCond .eq 11, 3) := by decide +kernel
theorem dX8_chain_9 : decode cX8_chain 9 = .ok (.iload_n 1, 1) := by decide +kernel
theorem dX8_chain_10 : decode cX8_chain 10 = .ok (.iload_n 3, 1) := by decide +kernel
theorem dX8_chain_11 : decode cX8_chain 11 = .ok (.invokestatic 141, 3) := by decide +kernel
theorem dX8_chain_14 : decode cX8_chain 14 = .ok (.ifCond .ne 9, 3) := by decide +kernel
theorem dX8_chain_17 : decode cX8_chain 17 = .ok (.aload_n 0, 1) := by decide +kernel
theorem dX8_chain_18 : decode cX8_chain 18 = .ok (.iconst (-1), 1) := by decide +kernel
theorem dX8_chain_19 : decode cX8_chain 19 = .ok (.invokevirtual 70, 3) := by decide +kernel
theorem dX8_chain_22 : decode cX8_chain 22 = .ok (.ireturn, 1) := by decide +kernel
theorem dX8_chain_23 : decode cX8_chain 23 = .ok (.iload 4, 2) := by decide +kernel
theorem dX8_chain_25 : decode cX8_chain 25 = .ok (.ifCond .lt 9, 3) := by decide +kernel
theorem dX8_chain_28 : decode cX8_chain 28 = .ok (.iload 4, 2) := by decide +kernel
theorem dX8_chain_30 : decode cX8_chain 30 = .ok (.iconst 2, 1) := by decide +kernel
theorem dX8_chain_31 : decode cX8_chain 31 = .ok (.if_icmp .le 10, 3) := by decide +kernel
theorem dX8_chain_34 : decode cX8_chain 34 = .ok (.aload_n 0, 1) := by decide +kernel
theorem dX8_chain_35 : decode cX8_chain 35 = .ok (.bipush (-2), 2) := by decide +kernel
theorem dX8_chain_37 : decode cX8_chain 37 = .ok (.invokevirtual 70, 3) := by decide +kernel
theorem dX8_chain_40 : decode cX8_chain 40 = .ok (.ireturn, 1) := by decide +kernel
theorem dX8_chain_41 : decode cX8_chain 41 = .ok (.aload_n 0, 1) := by decide +kernel
theorem dX8_chain_42 : decode cX8_chain 42 = .ok (.iload_n 1, 1) := by decide +kernel
theorem dX8_chain_43 : decode cX8_chain 43 = .ok (.iload_n 2, 1) := by decide +kernel
theorem dX8_chain_44 : decode cX8_chain 44 = .ok (.iload_n 3, 1) := by decide +kernel
theorem dX8_chain_45 : decode cX8_chain 45 = .ok (.iload 4, 2) := by decide +kernel
theorem dX8_chain_47 : decode cX8_chain 47 = .ok (.invokevirtual 144, 3) := by decide +kernel
theorem dX8_chain_50 : decode cX8_chain 50 = .ok (.ireturn, 1) := by decide +kernel
theorem dX8_copied_0 : decode cX8_copied 0 = .ok (.iload_n 1, 1) := by decide +kernel
theorem dX8_copied_1 : decode cX8_copied 1 = .ok (.invokestatic 81, 3) := by decide +kernel
theorem dX8_copied_4 : decode cX8_copied 4 = .ok (.ifCond .eq 12, 3) := by decide +kernel
theorem dX8_copied_7 : decode cX8_copied 7 = .ok (.aload_n 0, 1) := by decide +kernel
theorem dX8_copied_8 : decode cX8_copied 8 = .ok (.iload_n 2, 1) := by decide +kernel
theorem dX8_copied_9 : decode cX8_copied 9 = .ok (.iload_n 3, 1) := by decide +kernel
theorem dX8_copied_10 : decode cX8_copied 10 = .ok (.invokevirtual 107, 3) := by decide +kernel
theorem dX8_copied_13 : decode cX8_copied 13 = .ok (.ifCond .ne 9, 3) := by decide +kernel
theorem dX8_copied_16 : decode cX8_copied 16 = .ok (.aload_n 0, 1) := by decide +kernel
theorem dX8_copied_17 : decode cX8_copied 17 = .ok (.iconst (-1), 1) := by decide +kernel
theorem dX8_copied_18 : decode cX8_copied 18 = .ok (.invokevirtual 70, 3) := by decide +kernel
theorem dX8_copied_21 : decode cX8_copied 21 = .ok (.ireturn, 1) := by decide +kernel
theorem dX8_copied_22 : decode cX8_copied 22 = .ok (.aload_n 0, 1) := by decide +kernel
theorem dX8_copied_23 : decode cX8_copied 23 = .ok (.getfield 20, 3) := by decide +kernel
theorem dX8_copied_26 : decode cX8_copied 26 = .ok (.getfield 148, 3) := by decide +kernel
theorem dX8_copied_29 : decode cX8_copied 29 = .ok (.iload_n 2, 1) := by decide +kernel
theorem dX8_copied_30 : decode cX8_copied 30 = .ok (.iaload, 1) := by decide +kernel
theorem dX8_copied_31 : decode cX8_copied 31 = .ok (.aload_n 0, 1) := by decide +kernel
theorem dX8_copied_32 : decode cX8_copied 32 = .ok (.getfield 20, 3) := by decide +kernel
theorem dX8_copied_35 : decode cX8_copied 35 = .ok (.getfield 148, 3) := by decide +kernel
theorem dX8_copied_38 : decode cX8_copied 38 = .ok (.iload_n 1, 1) := by decide +kernel
theorem dX8_copied_39 : decode cX8_copied 39 = .ok (.iaload, 1) := by decide +kernel
theorem dX8_copied_40 : decode cX8_copied 40 = .ok (.if_icmp .gt 10, 3) := by decide +kernel
theorem dX8_copied_43 : decode cX8_copied 43 = .ok (.aload_n 0, 1) := by decide +kernel
theorem dX8_copied_44 : decode cX8_copied 44 = .ok (.bipush (-3), 2) := by decide +kernel
theorem dX8_copied_46 : decode cX8_copied 46 = .ok (.invokevirtual 70, 3) := by decide +kernel
theorem dX8_copied_49 : decode cX8_copied 49 = .ok (.ireturn, 1) := by decide +kernel
theorem dX8_copied_50 : decode cX8_copied 50 = .ok (.aload_n 0, 1) := by decide +kernel
theorem dX8_copied_51 : decode cX8_copied 51 = .ok (.iload_n 1, 1) := by decide +kernel
theorem dX8_copied_52 : decode cX8_copied 52 = .ok (.iload_n 2, 1) := by decide +kernel
theorem dX8_copied_53 : decode cX8_copied 53 = .ok (.invokevirtual 124, 3) := by decide +kernel
theorem dX8_copied_56 : decode cX8_copied 56 = .ok (.astore 4, 2) := by decide +kernel
theorem dX8_copied_58 : decode cX8_copied 58 = .ok (.iconst 0, 1) := by decide +kernel
theorem dX8_copied_59 : decode cX8_copied 59 = .ok (.istore 5, 2) := by decide +kernel
theorem dX8_copied_61 : decode cX8_copied 61 = .ok (.iload 5, 2) := by decide +kernel
theorem dX8_copied_63 : decode cX8_copied 63 = .ok (.aload_n 0, 1) := by decide +kernel
theorem dX8_copied_64 : decode cX8_copied 64 = .ok (.getfield 20, 3) := by decide +kernel
theorem dX8_copied_67 : decode cX8_copied 67 = .ok (.getfield 91, 3) := by decide +kernel
theorem dX8_copied_70 : decode cX8_copied 70 = .ok (.iload_n 1, 1) := by decide +kernel
theorem dX8_copied_71 : decode cX8_copied 71 = .ok (.iaload, 1) := by decide +kernel
theorem dX8_copied_72 : decode cX8_copied 72 = .ok (.if_icmp .ge 47, 3) := by decide +kernel
theorem dX8_copied_75 : decode cX8_copied 75 = .ok (.aload 4, 2) := by decide +kernel
theorem dX8_copied_77 : decode cX8_copied 77 = .ok (.getfield 131, 3) := by decide +kernel
theorem dX8_copied_80 : decode cX8_copied 80 = .ok (.iload 5, 2) := by decide +kernel
theorem dX8_copied_82 : decode cX8_copied 82 = .ok (.iaload, 1) := by decide +kernel
theorem dX8_copied_83 : decode cX8_copied 83 = .ok (.iload_n 3, 1) := by decide +kernel
theorem dX8_copied_84 : decode cX8_copied 84 = .ok (.if_icmp .eq 29, 3) := by decide +kernel
theorem dX8_copied_87 : decode cX8_copied 87 = .ok (.aload_n 0, 1) := by decide +kernel
theorem dX8_copied_88 : decode cX8_copied 88 = .ok (.getfield 20, 3) := by decide +kernel
theorem dX8_copied_91 : decode cX8_copied 91 = .ok (.iload_n 1, 1) := by decide +kernel
theorem dX8_copied_92 : decode cX8_copied 92 = .ok (.bipush 10, 2) := by decide +kernel
theorem dX8_copied_94 : decode cX8_copied 94 = .ok (.imul, 1) := by decide +kernel
theorem dX8_copied_95 : decode cX8_copied 95 = .ok (.iload 5, 2) := by decide +kernel
theorem dX8_copied_97 : decode cX8_copied 97 = .ok (.iadd, 1) := by decide +kernel
theorem dX8_copied_98 : decode cX8_copied 98 = .ok (.iload_n 2, 1) := by decide +kernel
theorem dX8_copied_99 : decode cX8_copied 99 = .ok (.bipush 10, 2) := by decide +kernel
theorem dX8_copied_101 : decode cX8_copied 101 = .ok (.imul, 1) := by decide +kernel
theorem dX8_copied_102 : decode cX8_copied 102 = .ok (.iload_n 3, 1) := by decide +kernel
theorem dX8_copied_103 : decode cX8_copied 103 = .ok (.iadd, 1) := by decide +kernel
theorem dX8_copied_104 : decode cX8_copied 104 = .ok (.invokevirtual 151, 3) := by decide +kernel
theorem dX8_copied_107 : decode cX8_copied 107 = .ok (.ifCond .eq 6, 3) := by decide +kernel
theorem dX8_copied_110 : decode cX8_copied 110 = .ok (.iload 5, 2) := by decide +kernel
theorem dX8_copied_112 : decode cX8_copied 112 = .ok (.ireturn, 1) := by decide +kernel
theorem dX8_copied_113 : decode cX8_copied 113 = .ok (.iinc 5 1, 3) := by decide +kernel
theorem dX8_copied_116 : decode cX8_copied 116 = .ok (.goto (-55), 3) := by decide +kernel
theorem dX8_copied_119 : decode cX8_copied 119 = .ok (.bipush (-9), 2) := by decide +kernel
theorem dX8_copied_121 : decode cX8_copied 121 = .ok (.ireturn, 1) := by decide +kernel
theorem dX8_sight_0 : decode cX8_sight 0 = .ok (.iload_n 1, 1) := by decide +kernel
theorem dX8_sight_1 : decode cX8_sight 1 = .ok (.invokestatic 154, 3) := by decide +kernel
theorem dX8_sight_4 : decode cX8_sight 4 = .ok (.ifCond .eq 13, 3) := by decide +kernel
theorem dX8_sight_7 : decode cX8_sight 7 = .ok (.iload_n 2, 1) := by decide +kernel
theorem dX8_sight_8 : decode cX8_sight 8 = .ok (.ifCond .lt 9, 3) := by decide +kernel
theorem dX8_sight_11 : decode cX8_sight 11 = .ok (.iload_n 2, 1) := by decide +kernel
theorem dX8_sight_12 : decode cX8_sight 12 = .ok (.bipush 8, 2) := by decide +kernel
theorem dX8_sight_14 : decode cX8_sight 14 = .ok (.if_icmp .lt 9, 3) := by decide +kernel
theorem dX8_sight_17 : decode cX8_sight 17 = .ok (.aload_n 0, 1) := by decide +kernel
theorem dX8_sight_18 : decode cX8_sight 18 = .ok (.iconst (-1), 1) := by decide +kernel
theorem dX8_sight_19 : decode cX8_sight 19 = .ok (.invokevirtual 70, 3) := by decide +kernel
theorem dX8_sight_22 : decode cX8_sight 22 = .ok (.ireturn, 1) := by decide +kernel
theorem dX8_sight_23 : decode cX8_sight 23 = .ok (.iload_n 3, 1) := by decide +kernel
theorem dX8_sight_24 : decode cX8_sight 24 = .ok (.iload 4, 2) := by decide +kernel
theorem dX8_sight_26 : decode cX8_sight 26 = .ok (.invokestatic 157, 3) := by decide +kernel
theorem dX8_sight_29 : decode cX8_sight 29 = .ok (.istore 5, 2) := by decide +kernel
theorem dX8_sight_31 : decode cX8_sight 31 = .ok (.iload 5, 2) := by decide +kernel
theorem dX8_sight_33 : decode cX8_sight 33 = .ok (.ifCond .eq 10, 3) := by decide +kernel
theorem dX8_sight_36 : decode cX8_sight 36 = .ok (.aload_n 0, 1) := by decide +kernel
theorem dX8_sight_37 : decode cX8_sight 37 = .ok (.iload 5, 2) := by decide +kernel
theorem dX8_sight_39 : decode cX8_sight 39 = .ok (.invokevirtual 70, 3) := by decide +kernel
theorem dX8_sight_42 : decode cX8_sight 42 = .ok (.ireturn, 1) := by decide +kernel
theorem dX8_sight_43 : decode cX8_sight 43 = .ok (.aload_n 0, 1) := by decide +kernel
theorem dX8_sight_44 : decode cX8_sight 44 = .ok (.getfield 34, 3) := by decide +kernel
theorem dX8_sight_47 : decode cX8_sight 47 = .ok (.getfield 160, 3) := by decide +kernel
theorem dX8_sight_50 : decode cX8_sight 50 = .ok (.bipush 60, 2) := by decide +kernel
theorem dX8_sight_52 : decode cX8_sight 52 = .ok (.if_icmp .lt 10, 3) := by decide +kernel
theorem dX8_sight_55 : decode cX8_sight 55 = .ok (.aload_n 0, 1) := by decide +kernel
theorem dX8_sight_56 : decode cX8_sight 56 = .ok (.bipush (-6), 2) := by decide +kernel
theorem dX8_sight_58 : decode cX8_sight 58 = .ok (.invokevirtual 70, 3) := by decide +kernel
theorem dX8_sight_61 : decode cX8_sight 61 = .ok (.ireturn, 1) := by decide +kernel
theorem dX8_sight_62 : decode cX8_sight 62 = .ok (.aload_n 0, 1) := by decide +kernel
theorem dX8_sight_63 : decode cX8_sight 63 = .ok (.getfield 34, 3) := by decide +kernel
theorem dX8_sight_66 : decode cX8_sight 66 = .ok (.iload_n 1, 1) := by decide +kernel
theorem dX8_sight_67 : decode cX8_sight 67 = .ok (.iload_n 2, 1) := by decide +kernel
theorem dX8_sight_68 : decode cX8_sight 68 = .ok (.iload_n 3, 1) := by decide +kernel
theorem dX8_sight_69 : decode cX8_sight 69 = .ok (.iconst 0, 1) := by decide +kernel
theorem dX8_sight_70 : decode cX8_sight 70 = .ok (.iload 4, 2) := by decide +kernel
theorem dX8_sight_72 : decode cX8_sight 72 = .ok (.invokevirtual 162, 3) := by decide +kernel
theorem dX8_sight_75 : decode cX8_sight 75 = .ok (.ireturn, 1) := by decide +kernel
theorem dX8_move_0 : decode cX8_move 0 = .ok (.iload_n 1, 1) := by decide +kernel
theorem dX8_move_1 : decode cX8_move 1 = .ok (.invokestatic 154, 3) := by decide +kernel
theorem dX8_move_4 : decode cX8_move 4 = .ok (.ifCond .eq 13, 3) := by decide +kernel
theorem dX8_move_7 : decode cX8_move 7 = .ok (.iload_n 2, 1) := by decide +kernel
theorem dX8_move_8 : decode cX8_move 8 = .ok (.ifCond .lt 9, 3) := by decide +kernel
theorem dX8_move_11 : decode cX8_move 11 = .ok (.iload_n 2, 1) := by decide +kernel
theorem dX8_move_12 : decode cX8_move 12 = .ok (.bipush 8, 2) := by decide +kernel
theorem dX8_move_14 : decode cX8_move 14 = .ok (.if_icmp .lt 9, 3) := by decide +kernel
theorem dX8_move_17 : decode cX8_move 17 = .ok (.aload_n 0, 1) := by decide +kernel
theorem dX8_move_18 : decode cX8_move 18 = .ok (.iconst (-1), 1) := by decide +kernel
theorem dX8_move_19 : decode cX8_move 19 = .ok (.invokevirtual 70, 3) := by decide +kernel
theorem dX8_move_22 : decode cX8_move 22 = .ok (.ireturn, 1) := by decide +kernel
theorem dX8_move_23 : decode cX8_move 23 = .ok (.iload 4, 2) := by decide +kernel
theorem dX8_move_25 : decode cX8_move 25 = .ok (.ifCond .lt 9, 3) := by decide +kernel
theorem dX8_move_28 : decode cX8_move 28 = .ok (.iload 4, 2) := by decide +kernel
theorem dX8_move_30 : decode cX8_move 30 = .ok (.iconst 4, 1) := by decide +kernel
theorem dX8_move_31 : decode cX8_move 31 = .ok (.if_icmp .le 10, 3) := by decide +kernel
theorem dX8_move_34 : decode cX8_move 34 = .ok (.aload_n 0, 1) := by decide +kernel
theorem dX8_move_35 : decode cX8_move 35 = .ok (.bipush (-2), 2) := by decide +kernel
theorem dX8_move_37 : decode cX8_move 37 = .ok (.invokevirtual 70, 3) := by decide +kernel
theorem dX8_move_40 : decode cX8_move 40 = .ok (.ireturn, 1) := by decide +kernel
theorem dX8_move_41 : decode cX8_move 41 = .ok (.iload_n 3, 1) := by decide +kernel
theorem dX8_move_42 : decode cX8_move 42 = .ok (.iload 5, 2) := by decide +kernel
theorem dX8_move_44 : decode cX8_move 44 = .ok (.invokestatic 157, 3) := by decide +kernel
theorem dX8_move_47 : decode cX8_move 47 = .ok (.istore 6, 2) := by decide +kernel
theorem dX8_move_49 : decode cX8_move 49 = .ok (.iload 6, 2) := by decide +kernel
theorem dX8_move_51 : decode cX8_move 51 = .ok (.ifCond .eq 10, 3) := by decide +kernel
theorem dX8_move_54 : decode cX8_move 54 = .ok (.aload_n 0, 1) := by decide +kernel
theorem dX8_move_55 : decode cX8_move 55 = .ok (.iload 6, 2) := by decide +kernel
theorem dX8_move_57 : decode cX8_move 57 = .ok (.invokevirtual 70, 3) := by decide +kernel
theorem dX8_move_60 : decode cX8_move 60 = .ok (.ireturn, 1) := by decide +kernel
theorem dX8_move_61 : decode cX8_move 61 = .ok (.aload_n 0, 1) := by decide +kernel
theorem dX8_move_62 : decode cX8_move 62 = .ok (.getfield 38, 3) := by decide +kernel
theorem dX8_move_65 : decode cX8_move 65 = .ok (.getfield 160, 3) := by decide +kernel
theorem dX8_move_68 : decode cX8_move 68 = .ok (.bipush 60, 2) := by decide +kernel
theorem dX8_move_70 : decode cX8_move 70 = .ok (.if_icmp .lt 10, 3) := by decide +kernel
theorem dX8_move_73 : decode cX8_move 73 = .ok (.aload_n 0, 1) := by decide +kernel
theorem dX8_move_74 : decode cX8_move 74 = .ok (.bipush (-6), 2) := by decide +kernel
theorem dX8_move_76 : decode cX8_move 76 = .ok (.invokevirtual 70, 3) := by decide +kernel
theorem dX8_move_79 : decode cX8_move 79 = .ok (.ireturn, 1) := by decide +kernel
theorem dX8_move_80 : decode cX8_move 80 = .ok (.aload_n 0, 1) := by decide +kernel
theorem dX8_move_81 : decode cX8_move 81 = .ok (.getfield 38, 3) := by decide +kernel
theorem dX8_move_84 : decode cX8_move 84 = .ok (.iload_n 1, 1) := by decide +kernel
theorem dX8_move_85 : decode cX8_move 85 = .ok (.iload_n 2, 1) := by decide +kernel
theorem dX8_move_86 : decode cX8_move 86 = .ok (.iload_n 3, 1) := by decide +kernel
theorem dX8_move_87 : decode cX8_move 87 = .ok (.iload 4, 2) := by decide +kernel
theorem dX8_move_89 : decode cX8_move 89 = .ok (.iload 5, 2) := by decide +kernel
theorem dX8_move_91 : decode cX8_move 91 = .ok (.invokevirtual 162, 3) := by decide +kernel
theorem dX8_move_94 : decode cX8_move 94 = .ok (.ireturn, 1) := by decide +kernel
theorem dX8_withdraw_0 : decode cX8_withdraw 0 = .ok (.iload_n 1, 1) := by decide +kernel
theorem dX8_withdraw_1 : decode cX8_withdraw 1 = .ok (.ifCond .eq 10, 3) := by decide +kernel
theorem dX8_withdraw_4 : decode cX8_withdraw 4 = .ok (.aload_n 0, 1) := by decide +kernel
theorem dX8_withdraw_5 : decode cX8_withdraw 5 = .ok (.getfield 34, 3) := by decide +kernel
theorem dX8_withdraw_8 : decode cX8_withdraw 8 = .ok (.goto 7, 3) := by decide +kernel
theorem dX8_withdraw_11 : decode cX8_withdraw 11 = .ok (.aload_n 0, 1) := by decide +kernel
theorem dX8_withdraw_12 : decode cX8_withdraw 12 = .ok (.getfield 38, 3) := by decide +kernel
theorem dX8_withdraw_15 : decode cX8_withdraw 15 = .ok (.astore 4, 2) := by decide +kernel
theorem dX8_withdraw_17 : decode cX8_withdraw 17 = .ok (.iload_n 2, 1) := by decide +kernel
theorem dX8_withdraw_18 : decode cX8_withdraw 18 = .ok (.ifCond .lt 12, 3) := by decide +kernel
theorem dX8_withdraw_21 : decode cX8_withdraw 21 = .ok (.iload_n 2, 1) := by decide +kernel
theorem dX8_withdraw_22 : decode cX8_withdraw 22 = .ok (.aload 4, 2) := by decide +kernel
theorem dX8_withdraw_24 : decode cX8_withdraw 24 = .ok (.getfield 160, 3) := by decide +kernel
theorem dX8_withdraw_27 : decode cX8_withdraw 27 = .ok (.if_icmp .lt 9, 3) := by decide +kernel
theorem dX8_withdraw_30 : decode cX8_withdraw 30 = .ok (.aload_n 0, 1) := by decide +kernel
theorem dX8_withdraw_31 : decode cX8_withdraw 31 = .ok (.iconst (-1), 1) := by decide +kernel
theorem dX8_withdraw_32 : decode cX8_withdraw 32 = .ok (.invokevirtual 70, 3) := by decide +kernel
theorem dX8_withdraw_35 : decode cX8_withdraw 35 = .ok (.ireturn, 1) := by decide +kernel
theorem dX8_withdraw_36 : decode cX8_withdraw 36 = .ok (.aload 4, 2) := by decide +kernel
theorem dX8_withdraw_38 : decode cX8_withdraw 38 = .ok (.getfield 165, 3) := by decide +kernel
theorem dX8_withdraw_41 : decode cX8_withdraw 41 = .ok (.iload_n 2, 1) := by decide +kernel
theorem dX8_withdraw_42 : decode cX8_withdraw 42 = .ok (.iaload, 1) := by decide +kernel
theorem dX8_withdraw_43 : decode cX8_withdraw 43 = .ok (.ldc 168, 2) := by decide +kernel
theorem dX8_withdraw_45 : decode cX8_withdraw 45 = .ok (.if_icmp .eq 10, 3) := by decide +kernel
theorem dX8_withdraw_48 : decode cX8_withdraw 48 = .ok (.aload_n 0, 1) := by decide +kernel
theorem dX8_withdraw_49 : decode cX8_withdraw 49 = .ok (.bipush (-3), 2) := by decide +kernel
theorem dX8_withdraw_51 : decode cX8_withdraw 51 = .ok (.invokevirtual 70, 3) := by decide +kernel
theorem dX8_withdraw_54 : decode cX8_withdraw 54 = .ok (.ireturn, 1) := by decide +kernel
theorem dX8_withdraw_55 : decode cX8_withdraw 55 = .ok (.iload_n 3, 1) := by decide +kernel
theorem dX8_withdraw_56 : decode cX8_withdraw 56 = .ok (.aload 4, 2) := by decide +kernel
theorem dX8_withdraw_58 : decode cX8_withdraw 58 = .ok (.getfield 169, 3) := by decide +kernel
theorem dX8_withdraw_61 : decode cX8_withdraw 61 = .ok (.iload_n 2, 1) := by decide +kernel
theorem dX8_withdraw_62 : decode cX8_withdraw 62 = .ok (.iaload, 1) := by decide +kernel
theorem dX8_withdraw_63 : decode cX8_withdraw 63 = .ok (.if_icmp .ge 10, 3) := by decide +kernel
theorem dX8_withdraw_66 : decode cX8_withdraw 66 = .ok (.aload_n 0, 1) := by decide +kernel
theorem dX8_withdraw_67 : decode cX8_withdraw 67 = .ok (.bipush (-4), 2) := by decide +kernel
theorem dX8_withdraw_69 : decode cX8_withdraw 69 = .ok (.invokevirtual 70, 3) := by decide +kernel
theorem dX8_withdraw_72 : decode cX8_withdraw 72 = .ok (.ireturn, 1) := by decide +kernel
theorem dX8_withdraw_73 : decode cX8_withdraw 73 = .ok (.iload_n 3, 1) := by decide +kernel
theorem dX8_withdraw_74 : decode cX8_withdraw 74 = .ok (.ldc 172, 2) := by decide +kernel
theorem dX8_withdraw_76 : decode cX8_withdraw 76 = .ok (.if_icmp .le 10, 3) := by decide +kernel
theorem dX8_withdraw_79 : decode cX8_withdraw 79 = .ok (.aload_n 0, 1) := by decide +kernel
theorem dX8_withdraw_80 : decode cX8_withdraw 80 = .ok (.bipush (-6), 2) := by decide +kernel
theorem dX8_withdraw_82 : decode cX8_withdraw 82 = .ok (.invokevirtual 70, 3) := by decide +kernel
theorem dX8_withdraw_85 : decode cX8_withdraw 85 = .ok (.ireturn, 1) := by decide +kernel
theorem dX8_withdraw_86 : decode cX8_withdraw 86 = .ok (.aload 4, 2) := by decide +kernel
theorem dX8_withdraw_88 : decode cX8_withdraw 88 = .ok (.iload_n 2, 1) := by decide +kernel
theorem dX8_withdraw_89 : decode cX8_withdraw 89 = .ok (.iload_n 3, 1) := by decide +kernel
theorem dX8_withdraw_90 : decode cX8_withdraw 90 = .ok (.invokevirtual 173, 3) := by decide +kernel
theorem dX8_withdraw_93 : decode cX8_withdraw 93 = .ok (.iconst 1, 1) := by decide +kernel
theorem dX8_withdraw_94 : decode cX8_withdraw 94 = .ok (.ireturn, 1) := by decide +kernel
theorem dX8_where_0 : decode cX8_where 0 = .ok (.iload_n 1, 1) := by decide +kernel
theorem dX8_where_1 : decode cX8_where 1 = .ok (.invokestatic 154, 3) := by decide +kernel
theorem dX8_where_4 : decode cX8_where 4 = .ok (.ifCond .ne 9, 3) := by decide +kernel
theorem dX8_where_7 : decode cX8_where 7 = .ok (.aload_n 0, 1) := by decide +kernel
theorem dX8_where_8 : decode cX8_where 8 = .ok (.iconst (-1), 1) := by decide +kernel
theorem dX8_where_9 : decode cX8_where 9 = .ok (.invokevirtual 70, 3) := by decide +kernel
theorem dX8_where_12 : decode cX8_where 12 = .ok (.ireturn, 1) := by decide +kernel
theorem dX8_where_13 : decode cX8_where 13 = .ok (.iload_n 2, 1) := by decide +kernel
theorem dX8_where_14 : decode cX8_where 14 = .ok (.iload_n 3, 1) := by decide +kernel
theorem dX8_where_15 : decode cX8_where 15 = .ok (.invokestatic 157, 3) := by decide +kernel
theorem dX8_where_18 : decode cX8_where 18 = .ok (.istore 4, 2) := by decide +kernel
theorem dX8_where_20 : decode cX8_where 20 = .ok (.iload 4, 2) := by decide +kernel
theorem dX8_where_22 : decode cX8_where 22 = .ok (.ifCond .eq 10, 3) := by decide +kernel
theorem dX8_where_25 : decode cX8_where 25 = .ok (.aload_n 0, 1) := by decide +kernel
theorem dX8_where_26 : decode cX8_where 26 = .ok (.iload 4, 2) := by decide +kernel
theorem dX8_where_28 : decode cX8_where 28 = .ok (.invokevirtual 70, 3) := by decide +kernel
theorem dX8_where_31 : decode cX8_where 31 = .ok (.ireturn, 1) := by decide +kernel
theorem dX8_where_32 : decode cX8_where 32 = .ok (.aload_n 0, 1) := by decide +kernel
theorem dX8_where_33 : decode cX8_where 33 = .ok (.getfield 34, 3) := by decide +kernel
theorem dX8_where_36 : decode cX8_where 36 = .ok (.iload_n 1, 1) := by decide +kernel
theorem dX8_where_37 : decode cX8_where 37 = .ok (.iload_n 2, 1) := by decide +kernel
theorem dX8_where_38 : decode cX8_where 38 = .ok (.iload_n 3, 1) := by decide +kernel
theorem dX8_where_39 : decode cX8_where 39 = .ok (.invokevirtual 176, 3) := by decide +kernel
theorem dX8_where_42 : decode cX8_where 42 = .ok (.ireturn, 1) := by decide +kernel
theorem dX8_quarrels_0 : decode cX8_quarrels 0 = .ok (.iload_n 1, 1) := by decide +kernel
theorem dX8_quarrels_1 : decode cX8_quarrels 1 = .ok (.invokestatic 154, 3) := by decide +kernel
theorem dX8_quarrels_4 : decode cX8_quarrels 4 = .ok (.ifCond .ne 9, 3) := by decide +kernel
theorem dX8_quarrels_7 : decode cX8_quarrels 7 = .ok (.aload_n 0, 1) := by decide +kernel
theorem dX8_quarrels_8 : decode cX8_quarrels 8 = .ok (.iconst (-1), 1) := by decide +kernel
theorem dX8_quarrels_9 : decode cX8_quarrels 9 = .ok (.invokevirtual 70, 3) := by decide +kernel
theorem dX8_quarrels_12 : decode cX8_quarrels 12 = .ok (.ireturn, 1) := by decide +kernel
theorem dX8_quarrels_13 : decode cX8_quarrels 13 = .ok (.iload_n 2, 1) := by decide +kernel
theorem dX8_quarrels_14 : decode cX8_quarrels 14 = .ok (.iload_n 2, 1) := by decide +kernel
theorem dX8_quarrels_15 : decode cX8_quarrels 15 = .ok (.invokestatic 157, 3) := by decide +kernel
theorem dX8_quarrels_18 : decode cX8_quarrels 18 = .ok (.istore_n 3, 1) := by decide +kernel
theorem dX8_quarrels_19 : decode cX8_quarrels 19 = .ok (.iload_n 3, 1) := by decide +kernel
theorem dX8_quarrels_20 : decode cX8_quarrels 20 = .ok (.ifCond .eq 9, 3) := by decide +kernel
theorem dX8_quarrels_23 : decode cX8_quarrels 23 = .ok (.aload_n 0, 1) := by decide +kernel
theorem dX8_quarrels_24 : decode cX8_quarrels 24 = .ok (.iload_n 3, 1) := by decide +kernel
theorem dX8_quarrels_25 : decode cX8_quarrels 25 = .ok (.invokevirtual 70, 3) := by decide +kernel
theorem dX8_quarrels_28 : decode cX8_quarrels 28 = .ok (.ireturn, 1) := by decide +kernel
theorem dX8_quarrels_29 : decode cX8_quarrels 29 = .ok (.aload_n 0, 1) := by decide +kernel
theorem dX8_quarrels_30 : decode cX8_quarrels 30 = .ok (.getfield 34, 3) := by decide +kernel
theorem dX8_quarrels_33 : decode cX8_quarrels 33 = .ok (.iload_n 1, 1) := by decide +kernel
theorem dX8_quarrels_34 : decode cX8_quarrels 34 = .ok (.iload_n 2, 1) := by decide +kernel
theorem dX8_quarrels_35 : decode cX8_quarrels 35 = .ok (.invokevirtual 180, 3) := by decide +kernel
theorem dX8_quarrels_38 : decode cX8_quarrels 38 = .ok (.ireturn, 1) := by decide +kernel
theorem dX8_holds_0 : decode cX8_holds 0 = .ok (.iload_n 1, 1) := by decide +kernel
theorem dX8_holds_1 : decode cX8_holds 1 = .ok (.invokestatic 154, 3) := by decide +kernel
theorem dX8_holds_4 : decode cX8_holds 4 = .ok (.ifCond .ne 9, 3) := by decide +kernel
theorem dX8_holds_7 : decode cX8_holds 7 = .ok (.aload_n 0, 1) := by decide +kernel
theorem dX8_holds_8 : decode cX8_holds 8 = .ok (.iconst (-1), 1) := by decide +kernel
theorem dX8_holds_9 : decode cX8_holds 9 = .ok (.invokevirtual 70, 3) := by decide +kernel
theorem dX8_holds_12 : decode cX8_holds 12 = .ok (.ireturn, 1) := by decide +kernel
theorem dX8_holds_13 : decode cX8_holds 13 = .ok (.iload 4, 2) := by decide +kernel
theorem dX8_holds_15 : decode cX8_holds 15 = .ok (.ifCond .lt 9, 3) := by decide +kernel
theorem dX8_holds_18 : decode cX8_holds 18 = .ok (.iload 4, 2) := by decide +kernel
theorem dX8_holds_20 : decode cX8_holds 20 = .ok (.iconst 2, 1) := by decide +kernel
theorem dX8_holds_21 : decode cX8_holds 21 = .ok (.if_icmp .le 10, 3) := by decide +kernel
theorem dX8_holds_24 : decode cX8_holds 24 = .ok (.aload_n 0, 1) := by decide +kernel
theorem dX8_holds_25 : decode cX8_holds 25 = .ok (.bipush (-2), 2) := by decide +kernel
theorem dX8_holds_27 : decode cX8_holds 27 = .ok (.invokevirtual 70, 3) := by decide +kernel
theorem dX8_holds_30 : decode cX8_holds 30 = .ok (.ireturn, 1) := by decide +kernel
theorem dX8_holds_31 : decode cX8_holds 31 = .ok (.iload_n 2, 1) := by decide +kernel
theorem dX8_holds_32 : decode cX8_holds 32 = .ok (.iload_n 3, 1) := by decide +kernel
theorem dX8_holds_33 : decode cX8_holds 33 = .ok (.invokestatic 157, 3) := by decide +kernel
theorem dX8_holds_36 : decode cX8_holds 36 = .ok (.istore 5, 2) := by decide +kernel
theorem dX8_holds_38 : decode cX8_holds 38 = .ok (.iload 5, 2) := by decide +kernel
theorem dX8_holds_40 : decode cX8_holds 40 = .ok (.ifCond .eq 10, 3) := by decide +kernel
theorem dX8_holds_43 : decode cX8_holds 43 = .ok (.aload_n 0, 1) := by decide +kernel
theorem dX8_holds_44 : decode cX8_holds 44 = .ok (.iload 5, 2) := by decide +kernel
theorem dX8_holds_46 : decode cX8_holds 46 = .ok (.invokevirtual 70, 3) := by decide +kernel
theorem dX8_holds_49 : decode cX8_holds 49 = .ok (.ireturn, 1) := by decide +kernel
theorem dX8_holds_50 : decode cX8_holds 50 = .ok (.aload_n 0, 1) := by decide +kernel
theorem dX8_holds_51 : decode cX8_holds 51 = .ok (.getfield 44, 3) := by decide +kernel
theorem dX8_holds_54 : decode cX8_holds 54 = .ok (.aload_n 0, 1) := by decide +kernel
theorem dX8_holds_55 : decode cX8_holds 55 = .ok (.getfield 38, 3) := by decide +kernel
theorem dX8_holds_58 : decode cX8_holds 58 = .ok (.iload_n 1, 1) := by decide +kernel
theorem dX8_holds_59 : decode cX8_holds 59 = .ok (.iload_n 2, 1) := by decide +kernel
theorem dX8_holds_60 : decode cX8_holds 60 = .ok (.iload_n 3, 1) := by decide +kernel
theorem dX8_holds_61 : decode cX8_holds 61 = .ok (.invokevirtual 183, 3) := by decide +kernel
theorem dX8_holds_64 : decode cX8_holds 64 = .ok (.iload 4, 2) := by decide +kernel
theorem dX8_holds_66 : decode cX8_holds 66 = .ok (.ifCond .ne 11, 3) := by decide +kernel
theorem dX8_holds_69 : decode cX8_holds 69 = .ok (.aload_n 0, 1) := by decide +kernel
theorem dX8_holds_70 : decode cX8_holds 70 = .ok (.getfield 44, 3) := by decide +kernel
theorem dX8_holds_73 : decode cX8_holds 73 = .ok (.getfield 187, 3) := by decide +kernel
theorem dX8_holds_76 : decode cX8_holds 76 = .ok (.ireturn, 1) := by decide +kernel
theorem dX8_holds_77 : decode cX8_holds 77 = .ok (.iload 4, 2) := by decide +kernel
theorem dX8_holds_79 : decode cX8_holds 79 = .ok (.iconst 1, 1) := by decide +kernel
theorem dX8_holds_80 : decode cX8_holds 80 = .ok (.if_icmp .ne 11, 3) := by decide +kernel
theorem dX8_holds_83 : decode cX8_holds 83 = .ok (.aload_n 0, 1) := by decide +kernel
theorem dX8_holds_84 : decode cX8_holds 84 = .ok (.getfield 44, 3) := by decide +kernel
theorem dX8_holds_87 : decode cX8_holds 87 = .ok (.getfield 190, 3) := by decide +kernel
theorem dX8_holds_90 : decode cX8_holds 90 = .ok (.ireturn, 1) := by decide +kernel
theorem dX8_holds_91 : decode cX8_holds 91 = .ok (.aload_n 0, 1) := by decide +kernel
theorem dX8_holds_92 : decode cX8_holds 92 = .ok (.getfield 44, 3) := by decide +kernel
theorem dX8_holds_95 : decode cX8_holds 95 = .ok (.getfield 193, 3) := by decide +kernel
theorem dX8_holds_98 : decode cX8_holds 98 = .ok (.ifCond .eq 7, 3) := by decide +kernel
theorem dX8_holds_101 : decode cX8_holds 101 = .ok (.iconst 1, 1) := by decide +kernel
theorem dX8_holds_102 : decode cX8_holds 102 = .ok (.goto 4, 3) := by decide +kernel
theorem dX8_holds_105 : decode cX8_holds 105 = .ok (.iconst 0, 1) := by decide +kernel
theorem dX8_holds_106 : decode cX8_holds 106 = .ok (.ireturn, 1) := by decide +kernel
theorem dX8_since_0 : decode cX8_since 0 = .ok (.iload_n 1, 1) := by decide +kernel
theorem dX8_since_1 : decode cX8_since 1 = .ok (.invokestatic 154, 3) := by decide +kernel
theorem dX8_since_4 : decode cX8_since 4 = .ok (.ifCond .ne 9, 3) := by decide +kernel
theorem dX8_since_7 : decode cX8_since 7 = .ok (.aload_n 0, 1) := by decide +kernel
theorem dX8_since_8 : decode cX8_since 8 = .ok (.iconst (-1), 1) := by decide +kernel
theorem dX8_since_9 : decode cX8_since 9 = .ok (.invokevirtual 70, 3) := by decide +kernel
theorem dX8_since_12 : decode cX8_since 12 = .ok (.ireturn, 1) := by decide +kernel
theorem dX8_since_13 : decode cX8_since 13 = .ok (.iload_n 2, 1) := by decide +kernel
theorem dX8_since_14 : decode cX8_since 14 = .ok (.iload_n 3, 1) := by decide +kernel
theorem dX8_since_15 : decode cX8_since 15 = .ok (.invokestatic 157, 3) := by decide +kernel
theorem dX8_since_18 : decode cX8_since 18 = .ok (.istore 4, 2) := by decide +kernel
theorem dX8_since_20 : decode cX8_since 20 = .ok (.iload 4, 2) := by decide +kernel
theorem dX8_since_22 : decode cX8_since 22 = .ok (.ifCond .eq 10, 3) := by decide +kernel
theorem dX8_since_25 : decode cX8_since 25 = .ok (.aload_n 0, 1) := by decide +kernel
theorem dX8_since_26 : decode cX8_since 26 = .ok (.iload 4, 2) := by decide +kernel
theorem dX8_since_28 : decode cX8_since 28 = .ok (.invokevirtual 70, 3) := by decide +kernel
theorem dX8_since_31 : decode cX8_since 31 = .ok (.ireturn, 1) := by decide +kernel
theorem dX8_since_32 : decode cX8_since 32 = .ok (.aload_n 0, 1) := by decide +kernel
theorem dX8_since_33 : decode cX8_since 33 = .ok (.getfield 44, 3) := by decide +kernel
theorem dX8_since_36 : decode cX8_since 36 = .ok (.aload_n 0, 1) := by decide +kernel
theorem dX8_since_37 : decode cX8_since 37 = .ok (.getfield 38, 3) := by decide +kernel
theorem dX8_since_40 : decode cX8_since 40 = .ok (.iload_n 1, 1) := by decide +kernel
theorem dX8_since_41 : decode cX8_since 41 = .ok (.iload_n 2, 1) := by decide +kernel
theorem dX8_since_42 : decode cX8_since 42 = .ok (.iload_n 3, 1) := by decide +kernel
theorem dX8_since_43 : decode cX8_since 43 = .ok (.invokevirtual 197, 3) := by decide +kernel
theorem dX8_since_46 : decode cX8_since 46 = .ok (.ireturn, 1) := by decide +kernel
theorem dX8_visitor_0 : decode cX8_visitor 0 = .ok (.iload_n 1, 1) := by decide +kernel
theorem dX8_visitor_1 : decode cX8_visitor 1 = .ok (.ifCond .lt 8, 3) := by decide +kernel
theorem dX8_visitor_4 : decode cX8_visitor 4 = .ok (.iload_n 1, 1) := by decide +kernel
theorem dX8_visitor_5 : decode cX8_visitor 5 = .ok (.iconst 3, 1) := by decide +kernel
theorem dX8_visitor_6 : decode cX8_visitor 6 = .ok (.if_icmp .le 10, 3) := by decide +kernel
theorem dX8_visitor_9 : decode cX8_visitor 9 = .ok (.aload_n 0, 1) := by decide +kernel
theorem dX8_visitor_10 : decode cX8_visitor 10 = .ok (.bipush (-2), 2) := by decide +kernel
theorem dX8_visitor_12 : decode cX8_visitor 12 = .ok (.invokevirtual 70, 3) := by decide +kernel
theorem dX8_visitor_15 : decode cX8_visitor 15 = .ok (.ireturn, 1) := by decide +kernel
theorem dX8_visitor_16 : decode cX8_visitor 16 = .ok (.iload_n 2, 1) := by decide +kernel
theorem dX8_visitor_17 : decode cX8_visitor 17 = .ok (.invokestatic 154, 3) := by decide +kernel
theorem dX8_visitor_20 : decode cX8_visitor 20 = .ok (.ifCond .eq 22, 3) := by decide +kernel
theorem dX8_visitor_23 : decode cX8_visitor 23 = .ok (.iload_n 1, 1) := by decide +kernel
theorem dX8_visitor_24 : decode cX8_visitor 24 = .ok (.invokestatic 201, 3) := by decide +kernel
theorem dX8_visitor_27 : decode cX8_visitor 27 = .ok (.ifCond .eq 21, 3) := by decide +kernel
theorem dX8_visitor_30 : decode cX8_visitor 30 = .ok (.iload_n 3, 1) := by decide +kernel
theorem dX8_visitor_31 : decode cX8_visitor 31 = .ok (.invokestatic 154, 3) := by decide +kernel
theorem dX8_visitor_34 : decode cX8_visitor 34 = .ok (.ifCond .eq 8, 3) := by decide +kernel
