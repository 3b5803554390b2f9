theorem dX9_isBarred_8 : decode cX9_isBarred 8 = .ok (.getfield 142, 3) := by decide +kernel
theorem dX9_isBarred_11 : decode cX9_isBarred 11 = .ok (.if_icmp .ge 63, 3) := by decide +kernel
theorem dX9_isBarred_14 : decode cX9_isBarred 14 = .ok (.iload_n 3, 1) := by decide +kernel
theorem dX9_isBarred_15 : decode cX9_isBarred 15 = .ok (.ifCond .ne 47, 3) := by decide +kernel
theorem dX9_isBarred_18 : decode cX9_isBarred 18 = .ok (.aload_n 0, 1) := by decide +kernel
theorem dX9_isBarred_19 : decode cX9_isBarred 19 = .ok (.getfield 34, 3) := by decide +kernel
theorem dX9_isBarred_22 : decode cX9_isBarred 22 = .ok (.iload 4, 2) := by decide +kernel
theorem dX9_isBarred_24 : decode cX9_isBarred 24 = .ok (.iaload, 1) := by decide +kernel
theorem dX9_isBarred_25 : decode cX9_isBarred 25 = .ok (.iload_n 1, 1) := by decide +kernel
theorem dX9_isBarred_26 : decode cX9_isBarred 26 = .ok (.if_icmp .ne 14, 3) := by decide +kernel
theorem dX9_isBarred_29 : decode cX9_isBarred 29 = .ok (.aload_n 0, 1) := by decide +kernel
theorem dX9_isBarred_30 : decode cX9_isBarred 30 = .ok (.getfield 37, 3) := by decide +kernel
theorem dX9_isBarred_33 : decode cX9_isBarred 33 = .ok (.iload 4, 2) := by decide +kernel
theorem dX9_isBarred_35 : decode cX9_isBarred 35 = .ok (.iaload, 1) := by decide +kernel
theorem dX9_isBarred_36 : decode cX9_isBarred 36 = .ok (.iload_n 2, 1) := by decide +kernel
theorem dX9_isBarred_37 : decode cX9_isBarred 37 = .ok (.if_icmp .eq 25, 3) := by decide +kernel
theorem dX9_isBarred_40 : decode cX9_isBarred 40 = .ok (.aload_n 0, 1) := by decide +kernel
theorem dX9_isBarred_41 : decode cX9_isBarred 41 = .ok (.getfield 34, 3) := by decide +kernel
theorem dX9_isBarred_44 : decode cX9_isBarred 44 = .ok (.iload 4, 2) := by decide +kernel
theorem dX9_isBarred_46 : decode cX9_isBarred 46 = .ok (.iaload, 1) := by decide +kernel
theorem dX9_isBarred_47 : decode cX9_isBarred 47 = .ok (.iload_n 2, 1) := by decide +kernel
theorem dX9_isBarred_48 : decode cX9_isBarred 48 = .ok (.if_icmp .ne 18, 3) := by decide +kernel
theorem dX9_isBarred_51 : decode cX9_isBarred 51 = .ok (.aload_n 0, 1) := by decide +kernel
theorem dX9_isBarred_52 : decode cX9_isBarred 52 = .ok (.getfield 37, 3) := by decide +kernel
theorem dX9_isBarred_55 : decode cX9_isBarred 55 = .ok (.iload 4, 2) := by decide +kernel
theorem dX9_isBarred_57 : decode cX9_isBarred 57 = .ok (.iaload, 1) := by decide +kernel
theorem dX9_isBarred_58 : decode cX9_isBarred 58 = .ok (.iload_n 1, 1) := by decide +kernel
theorem dX9_isBarred_59 : decode cX9_isBarred 59 = .ok (.if_icmp .ne 7, 3) := by decide +kernel
theorem dX9_isBarred_62 : decode cX9_isBarred 62 = .ok (.iconst 1, 1) := by decide +kernel
theorem dX9_isBarred_63 : decode cX9_isBarred 63 = .ok (.goto 4, 3) := by decide +kernel
theorem dX9_isBarred_66 : decode cX9_isBarred 66 = .ok (.iconst 0, 1) := by decide +kernel
theorem dX9_isBarred_67 : decode cX9_isBarred 67 = .ok (.istore_n 3, 1) := by decide +kernel
theorem dX9_isBarred_68 : decode cX9_isBarred 68 = .ok (.iinc 4 1, 3) := by decide +kernel
theorem dX9_isBarred_71 : decode cX9_isBarred 71 = .ok (.goto (-66), 3) := by decide +kernel
theorem dX9_isBarred_74 : decode cX9_isBarred 74 = .ok (.iload_n 3, 1) := by decide +kernel
theorem dX9_isBarred_75 : decode cX9_isBarred 75 = .ok (.ireturn, 1) := by decide +kernel
theorem dX9_bar_0 : decode cX9_bar 0 = .ok (.aload_n 0, 1) := by decide +kernel
theorem dX9_bar_1 : decode cX9_bar 1 = .ok (.iload_n 1, 1) := by decide +kernel
theorem dX9_bar_2 : decode cX9_bar 2 = .ok (.iload_n 2, 1) := by decide +kernel
theorem dX9_bar_3 : decode cX9_bar 3 = .ok (.invokevirtual 145, 3) := by decide +kernel
theorem dX9_bar_6 : decode cX9_bar 6 = .ok (.ifCond .eq 18, 3) := by decide +kernel
theorem dX9_bar_9 : decode cX9_bar 9 = .ok (.aload_n 0, 1) := by decide +kernel
theorem dX9_bar_10 : decode cX9_bar 10 = .ok (.iload_n 3, 1) := by decide +kernel
theorem dX9_bar_11 : decode cX9_bar 11 = .ok (.iload 4, 2) := by decide +kernel
theorem dX9_bar_13 : decode cX9_bar 13 = .ok (.invokevirtual 145, 3) := by decide +kernel
theorem dX9_bar_16 : decode cX9_bar 16 = .ok (.ifCond .eq 8, 3) := by decide +kernel
theorem dX9_bar_19 : decode cX9_bar 19 = .ok (.iload_n 1, 1) := by decide +kernel
theorem dX9_bar_20 : decode cX9_bar 20 = .ok (.iload_n 3, 1) := by decide +kernel
theorem dX9_bar_21 : decode cX9_bar 21 = .ok (.if_icmp .ne 9, 3) := by decide +kernel
theorem dX9_bar_24 : decode cX9_bar 24 = .ok (.aload_n 0, 1) := by decide +kernel
theorem dX9_bar_25 : decode cX9_bar 25 = .ok (.iconst (-1), 1) := by decide +kernel
theorem dX9_bar_26 : decode cX9_bar 26 = .ok (.invokevirtual 130, 3) := by decide +kernel
theorem dX9_bar_29 : decode cX9_bar 29 = .ok (.ireturn, 1) := by decide +kernel
theorem dX9_bar_30 : decode cX9_bar 30 = .ok (.aload_n 0, 1) := by decide +kernel
theorem dX9_bar_31 : decode cX9_bar 31 = .ok (.bipush 10, 2) := by decide +kernel
theorem dX9_bar_33 : decode cX9_bar 33 = .ok (.iload_n 1, 1) := by decide +kernel
theorem dX9_bar_34 : decode cX9_bar 34 = .ok (.imul, 1) := by decide +kernel
theorem dX9_bar_35 : decode cX9_bar 35 = .ok (.iload_n 2, 1) := by decide +kernel
theorem dX9_bar_36 : decode cX9_bar 36 = .ok (.iadd, 1) := by decide +kernel
theorem dX9_bar_37 : decode cX9_bar 37 = .ok (.bipush 10, 2) := by decide +kernel
theorem dX9_bar_39 : decode cX9_bar 39 = .ok (.iload_n 3, 1) := by decide +kernel
theorem dX9_bar_40 : decode cX9_bar 40 = .ok (.imul, 1) := by decide +kernel
theorem dX9_bar_41 : decode cX9_bar 41 = .ok (.iload 4, 2) := by decide +kernel
theorem dX9_bar_43 : decode cX9_bar 43 = .ok (.iadd, 1) := by decide +kernel
theorem dX9_bar_44 : decode cX9_bar 44 = .ok (.invokevirtual 148, 3) := by decide +kernel
theorem dX9_bar_47 : decode cX9_bar 47 = .ok (.ifCond .eq 5, 3) := by decide +kernel
theorem dX9_bar_50 : decode cX9_bar 50 = .ok (.iconst 0, 1) := by decide +kernel
theorem dX9_bar_51 : decode cX9_bar 51 = .ok (.ireturn, 1) := by decide +kernel
theorem dX9_bar_52 : decode cX9_bar 52 = .ok (.aload_n 0, 1) := by decide +kernel
theorem dX9_bar_53 : decode cX9_bar 53 = .ok (.getfield 142, 3) := by decide +kernel
theorem dX9_bar_56 : decode cX9_bar 56 = .ok (.bipush 30, 2) := by decide +kernel
theorem dX9_bar_58 : decode cX9_bar 58 = .ok (.if_icmp .ne 10, 3) := by decide +kernel
theorem dX9_bar_61 : decode cX9_bar 61 = .ok (.aload_n 0, 1) := by decide +kernel
theorem dX9_bar_62 : decode cX9_bar 62 = .ok (.bipush (-6), 2) := by decide +kernel
theorem dX9_bar_64 : decode cX9_bar 64 = .ok (.invokevirtual 130, 3) := by decide +kernel
theorem dX9_bar_67 : decode cX9_bar 67 = .ok (.ireturn, 1) := by decide +kernel
theorem dX9_bar_68 : decode cX9_bar 68 = .ok (.aload_n 0, 1) := by decide +kernel
theorem dX9_bar_69 : decode cX9_bar 69 = .ok (.getfield 34, 3) := by decide +kernel
theorem dX9_bar_72 : decode cX9_bar 72 = .ok (.aload_n 0, 1) := by decide +kernel
theorem dX9_bar_73 : decode cX9_bar 73 = .ok (.getfield 142, 3) := by decide +kernel
theorem dX9_bar_76 : decode cX9_bar 76 = .ok (.bipush 10, 2) := by decide +kernel
theorem dX9_bar_78 : decode cX9_bar 78 = .ok (.iload_n 1, 1) := by decide +kernel
theorem dX9_bar_79 : decode cX9_bar 79 = .ok (.imul, 1) := by decide +kernel
theorem dX9_bar_80 : decode cX9_bar 80 = .ok (.iload_n 2, 1) := by decide +kernel
theorem dX9_bar_81 : decode cX9_bar 81 = .ok (.iadd, 1) := by decide +kernel
theorem dX9_bar_82 : decode cX9_bar 82 = .ok (.iastore, 1) := by decide +kernel
theorem dX9_bar_83 : decode cX9_bar 83 = .ok (.aload_n 0, 1) := by decide +kernel
theorem dX9_bar_84 : decode cX9_bar 84 = .ok (.getfield 37, 3) := by decide +kernel
theorem dX9_bar_87 : decode cX9_bar 87 = .ok (.aload_n 0, 1) := by decide +kernel
theorem dX9_bar_88 : decode cX9_bar 88 = .ok (.getfield 142, 3) := by decide +kernel
theorem dX9_bar_91 : decode cX9_bar 91 = .ok (.bipush 10, 2) := by decide +kernel
theorem dX9_bar_93 : decode cX9_bar 93 = .ok (.iload_n 3, 1) := by decide +kernel
theorem dX9_bar_94 : decode cX9_bar 94 = .ok (.imul, 1) := by decide +kernel
theorem dX9_bar_95 : decode cX9_bar 95 = .ok (.iload 4, 2) := by decide +kernel
theorem dX9_bar_97 : decode cX9_bar 97 = .ok (.iadd, 1) := by decide +kernel
theorem dX9_bar_98 : decode cX9_bar 98 = .ok (.iastore, 1) := by decide +kernel
theorem dX9_bar_99 : decode cX9_bar 99 = .ok (.aload_n 0, 1) := by decide +kernel
theorem dX9_bar_100 : decode cX9_bar 100 = .ok (.dup, 1) := by decide +kernel
theorem dX9_bar_101 : decode cX9_bar 101 = .ok (.getfield 142, 3) := by decide +kernel
theorem dX9_bar_104 : decode cX9_bar 104 = .ok (.iconst 1, 1) := by decide +kernel
theorem dX9_bar_105 : decode cX9_bar 105 = .ok (.iadd, 1) := by decide +kernel
theorem dX9_bar_106 : decode cX9_bar 106 = .ok (.putfield 142, 3) := by decide +kernel
theorem dX9_bar_109 : decode cX9_bar 109 = .ok (.iconst 1, 1) := by decide +kernel
theorem dX9_bar_110 : decode cX9_bar 110 = .ok (.ireturn, 1) := by decide +kernel
theorem dX9_senses_0 : decode cX9_senses 0 = .ok (.iconst 0, 1) := by decide +kernel
theorem dX9_senses_1 : decode cX9_senses 1 = .ok (.istore_n 2, 1) := by decide +kernel
theorem dX9_senses_2 : decode cX9_senses 2 = .ok (.iconst 0, 1) := by decide +kernel
theorem dX9_senses_3 : decode cX9_senses 3 = .ok (.istore_n 3, 1) := by decide +kernel
theorem dX9_senses_4 : decode cX9_senses 4 = .ok (.iload_n 3, 1) := by decide +kernel
theorem dX9_senses_5 : decode cX9_senses 5 = .ok (.bipush 20, 2) := by decide +kernel
theorem dX9_senses_7 : decode cX9_senses 7 = .ok (.if_icmp .ge 33, 3) := by decide +kernel
theorem dX9_senses_10 : decode cX9_senses 10 = .ok (.aload_n 0, 1) := by decide +kernel
theorem dX9_senses_11 : decode cX9_senses 11 = .ok (.getfield 22, 3) := by decide +kernel
theorem dX9_senses_14 : decode cX9_senses 14 = .ok (.iload_n 1, 1) := by decide +kernel
theorem dX9_senses_15 : decode cX9_senses 15 = .ok (.iaload, 1) := by decide +kernel
theorem dX9_senses_16 : decode cX9_senses 16 = .ok (.iload_n 3, 1) := by decide +kernel
theorem dX9_senses_17 : decode cX9_senses 17 = .ok (.ishr, 1) := by decide +kernel
theorem dX9_senses_18 : decode cX9_senses 18 = .ok (.iconst 1, 1) := by decide +kernel
theorem dX9_senses_19 : decode cX9_senses 19 = .ok (.iand, 1) := by decide +kernel
theorem dX9_senses_20 : decode cX9_senses 20 = .ok (.iconst 1, 1) := by decide +kernel
theorem dX9_senses_21 : decode cX9_senses 21 = .ok (.if_icmp .ne 13, 3) := by decide +kernel
theorem dX9_senses_24 : decode cX9_senses 24 = .ok (.iload_n 2, 1) := by decide +kernel
theorem dX9_senses_25 : decode cX9_senses 25 = .ok (.iconst 1, 1) := by decide +kernel
theorem dX9_senses_26 : decode cX9_senses 26 = .ok (.aload_n 0, 1) := by decide +kernel
theorem dX9_senses_27 : decode cX9_senses 27 = .ok (.iload_n 3, 1) := by decide +kernel
theorem dX9_senses_28 : decode cX9_senses 28 = .ok (.invokevirtual 134, 3) := by decide +kernel
theorem dX9_senses_31 : decode cX9_senses 31 = .ok (.ishl, 1) := by decide +kernel
theorem dX9_senses_32 : decode cX9_senses 32 = .ok (.ior, 1) := by decide +kernel
theorem dX9_senses_33 : decode cX9_senses 33 = .ok (.istore_n 2, 1) := by decide +kernel
theorem dX9_senses_34 : decode cX9_senses 34 = .ok (.iinc 3 1, 3) := by decide +kernel
theorem dX9_senses_37 : decode cX9_senses 37 = .ok (.goto (-33), 3) := by decide +kernel
theorem dX9_senses_40 : decode cX9_senses 40 = .ok (.iload_n 2, 1) := by decide +kernel
theorem dX9_senses_41 : decode cX9_senses 41 = .ok (.ireturn, 1) := by decide +kernel
theorem dX9_bitsOf_0 : decode cX9_bitsOf 0 = .ok (.iconst 0, 1) := by decide +kernel
theorem dX9_bitsOf_1 : decode cX9_bitsOf 1 = .ok (.istore_n 1, 1) := by decide +kernel
theorem dX9_bitsOf_2 : decode cX9_bitsOf 2 = .ok (.iload_n 0, 1) := by decide +kernel
theorem dX9_bitsOf_3 : decode cX9_bitsOf 3 = .ok (.istore_n 2, 1) := by decide +kernel
theorem dX9_bitsOf_4 : decode cX9_bitsOf 4 = .ok (.iload_n 2, 1) := by decide +kernel
theorem dX9_bitsOf_5 : decode cX9_bitsOf 5 = .ok (.ifCond .eq 15, 3) := by decide +kernel
theorem dX9_bitsOf_8 : decode cX9_bitsOf 8 = .ok (.iinc 1 1, 3) := by decide +kernel
theorem dX9_bitsOf_11 : decode cX9_bitsOf 11 = .ok (.iload_n 2, 1) := by decide +kernel
theorem dX9_bitsOf_12 : decode cX9_bitsOf 12 = .ok (.iload_n 2, 1) := by decide +kernel
theorem dX9_bitsOf_13 : decode cX9_bitsOf 13 = .ok (.iconst 1, 1) := by decide +kernel
theorem dX9_bitsOf_14 : decode cX9_bitsOf 14 = .ok (.isub, 1) := by decide +kernel
theorem dX9_bitsOf_15 : decode cX9_bitsOf 15 = .ok (.iand, 1) := by decide +kernel
theorem dX9_bitsOf_16 : decode cX9_bitsOf 16 = .ok (.istore_n 2, 1) := by decide +kernel
theorem dX9_bitsOf_17 : decode cX9_bitsOf 17 = .ok (.goto (-13), 3) := by decide +kernel
theorem dX9_bitsOf_20 : decode cX9_bitsOf 20 = .ok (.iload_n 1, 1) := by decide +kernel
theorem dX9_bitsOf_21 : decode cX9_bitsOf 21 = .ok (.ireturn, 1) := by decide +kernel
theorem dX9_likeOf_0 : decode cX9_likeOf 0 = .ok (.bipush 10, 2) := by decide +kernel
theorem dX9_likeOf_2 : decode cX9_likeOf 2 = .ok (.iload_n 1, 1) := by decide +kernel
theorem dX9_likeOf_3 : decode cX9_likeOf 3 = .ok (.imul, 1) := by decide +kernel
theorem dX9_likeOf_4 : decode cX9_likeOf 4 = .ok (.iload_n 2, 1) := by decide +kernel
theorem dX9_likeOf_5 : decode cX9_likeOf 5 = .ok (.iadd, 1) := by decide +kernel
theorem dX9_likeOf_6 : decode cX9_likeOf 6 = .ok (.istore 5, 2) := by decide +kernel
theorem dX9_likeOf_8 : decode cX9_likeOf 8 = .ok (.bipush 10, 2) := by decide +kernel
theorem dX9_likeOf_10 : decode cX9_likeOf 10 = .ok (.iload_n 3, 1) := by decide +kernel
theorem dX9_likeOf_11 : decode cX9_likeOf 11 = .ok (.imul, 1) := by decide +kernel
theorem dX9_likeOf_12 : decode cX9_likeOf 12 = .ok (.iload 4, 2) := by decide +kernel
theorem dX9_likeOf_14 : decode cX9_likeOf 14 = .ok (.iadd, 1) := by decide +kernel
theorem dX9_likeOf_15 : decode cX9_likeOf 15 = .ok (.istore 6, 2) := by decide +kernel
theorem dX9_likeOf_17 : decode cX9_likeOf 17 = .ok (.aload_n 0, 1) := by decide +kernel
theorem dX9_likeOf_18 : decode cX9_likeOf 18 = .ok (.getfield 25, 3) := by decide +kernel
theorem dX9_likeOf_21 : decode cX9_likeOf 21 = .ok (.iload 5, 2) := by decide +kernel
theorem dX9_likeOf_23 : decode cX9_likeOf 23 = .ok (.iaload, 1) := by decide +kernel
theorem dX9_likeOf_24 : decode cX9_likeOf 24 = .ok (.aload_n 0, 1) := by decide +kernel
theorem dX9_likeOf_25 : decode cX9_likeOf 25 = .ok (.getfield 25, 3) := by decide +kernel
theorem dX9_likeOf_28 : decode cX9_likeOf 28 = .ok (.iload 6, 2) := by decide +kernel
theorem dX9_likeOf_30 : decode cX9_likeOf 30 = .ok (.iaload, 1) := by decide +kernel
theorem dX9_likeOf_31 : decode cX9_likeOf 31 = .ok (.isub, 1) := by decide +kernel
theorem dX9_likeOf_32 : decode cX9_likeOf 32 = .ok (.invokestatic 151, 3) := by decide +kernel
theorem dX9_likeOf_35 : decode cX9_likeOf 35 = .ok (.istore 7, 2) := by decide +kernel
theorem dX9_likeOf_37 : decode cX9_likeOf 37 = .ok (.aload_n 0, 1) := by decide +kernel
theorem dX9_likeOf_38 : decode cX9_likeOf 38 = .ok (.iload 5, 2) := by decide +kernel
theorem dX9_likeOf_40 : decode cX9_likeOf 40 = .ok (.invokevirtual 156, 3) := by decide +kernel
theorem dX9_likeOf_43 : decode cX9_likeOf 43 = .ok (.istore 8, 2) := by decide +kernel
theorem dX9_likeOf_45 : decode cX9_likeOf 45 = .ok (.aload_n 0, 1) := by decide +kernel
theorem dX9_likeOf_46 : decode cX9_likeOf 46 = .ok (.iload 6, 2) := by decide +kernel
theorem dX9_likeOf_48 : decode cX9_likeOf 48 = .ok (.invokevirtual 156, 3) := by decide +kernel
theorem dX9_likeOf_51 : decode cX9_likeOf 51 = .ok (.istore 9, 2) := by decide +kernel
theorem dX9_likeOf_53 : decode cX9_likeOf 53 = .ok (.aload_n 0, 1) := by decide +kernel
theorem dX9_likeOf_54 : decode cX9_likeOf 54 = .ok (.getfield 16, 3) := by decide +kernel
theorem dX9_likeOf_57 : decode cX9_likeOf 57 = .ok (.iload_n 1, 1) := by decide +kernel
theorem dX9_likeOf_58 : decode cX9_likeOf 58 = .ok (.iaload, 1) := by decide +kernel
theorem dX9_likeOf_59 : decode cX9_likeOf 59 = .ok (.aload_n 0, 1) := by decide +kernel
theorem dX9_likeOf_60 : decode cX9_likeOf 60 = .ok (.getfield 16, 3) := by decide +kernel
theorem dX9_likeOf_63 : decode cX9_likeOf 63 = .ok (.iload_n 3, 1) := by decide +kernel
theorem dX9_likeOf_64 : decode cX9_likeOf 64 = .ok (.iaload, 1) := by decide +kernel
theorem dX9_likeOf_65 : decode cX9_likeOf 65 = .ok (.if_icmp .eq 26, 3) := by decide +kernel
theorem dX9_likeOf_68 : decode cX9_likeOf 68 = .ok (.aload_n 0, 1) := by decide +kernel
theorem dX9_likeOf_69 : decode cX9_likeOf 69 = .ok (.getfield 16, 3) := by decide +kernel
theorem dX9_likeOf_72 : decode cX9_likeOf 72 = .ok (.iload_n 1, 1) := by decide +kernel
theorem dX9_likeOf_73 : decode cX9_likeOf 73 = .ok (.iaload, 1) := by decide +kernel
theorem dX9_likeOf_74 : decode cX9_likeOf 74 = .ok (.aload_n 0, 1) := by decide +kernel
theorem dX9_likeOf_75 : decode cX9_likeOf 75 = .ok (.getfield 16, 3) := by decide +kernel
theorem dX9_likeOf_78 : decode cX9_likeOf 78 = .ok (.iload_n 3, 1) := by decide +kernel
theorem dX9_likeOf_79 : decode cX9_likeOf 79 = .ok (.iaload, 1) := by decide +kernel
theorem dX9_likeOf_80 : decode cX9_likeOf 80 = .ok (.if_icmp .ge 7, 3) := by decide +kernel
theorem dX9_likeOf_83 : decode cX9_likeOf 83 = .ok (.iconst 1, 1) := by decide +kernel
theorem dX9_likeOf_84 : decode cX9_likeOf 84 = .ok (.goto 17, 3) := by decide +kernel
theorem dX9_likeOf_87 : decode cX9_likeOf 87 = .ok (.iconst 0, 1) := by decide +kernel
theorem dX9_likeOf_88 : decode cX9_likeOf 88 = .ok (.goto 13, 3) := by decide +kernel
theorem dX9_likeOf_91 : decode cX9_likeOf 91 = .ok (.iload_n 1, 1) := by decide +kernel
theorem dX9_likeOf_92 : decode cX9_likeOf 92 = .ok (.iload_n 3, 1) := by decide +kernel
theorem dX9_likeOf_93 : decode cX9_likeOf 93 = .ok (.if_icmp .ge 7, 3) := by decide +kernel
theorem dX9_likeOf_96 : decode cX9_likeOf 96 = .ok (.iconst 1, 1) := by decide +kernel
theorem dX9_likeOf_97 : decode cX9_likeOf 97 = .ok (.goto 4, 3) := by decide +kernel
theorem dX9_likeOf_100 : decode cX9_likeOf 100 = .ok (.iconst 0, 1) := by decide +kernel
theorem dX9_likeOf_101 : decode cX9_likeOf 101 = .ok (.istore 10, 2) := by decide +kernel
theorem dX9_likeOf_103 : decode cX9_likeOf 103 = .ok (.iload 10, 2) := by decide +kernel
theorem dX9_likeOf_105 : decode cX9_likeOf 105 = .ok (.ifCond .eq 21, 3) := by decide +kernel
theorem dX9_likeOf_108 : decode cX9_likeOf 108 = .ok (.aload_n 0, 1) := by decide +kernel
theorem dX9_likeOf_109 : decode cX9_likeOf 109 = .ok (.getfield 31, 3) := by decide +kernel
theorem dX9_likeOf_112 : decode cX9_likeOf 112 = .ok (.iload 5, 2) := by decide +kernel
theorem dX9_likeOf_114 : decode cX9_likeOf 114 = .ok (.iaload, 1) := by decide +kernel
theorem dX9_likeOf_115 : decode cX9_likeOf 115 = .ok (.aload_n 0, 1) := by decide +kernel
theorem dX9_likeOf_116 : decode cX9_likeOf 116 = .ok (.getfield 31, 3) := by decide +kernel
theorem dX9_likeOf_119 : decode cX9_likeOf 119 = .ok (.iload 6, 2) := by decide +kernel
theorem dX9_likeOf_121 : decode cX9_likeOf 121 = .ok (.iaload, 1) := by decide +kernel
theorem dX9_likeOf_122 : decode cX9_likeOf 122 = .ok (.isub, 1) := by decide +kernel
theorem dX9_likeOf_123 : decode cX9_likeOf 123 = .ok (.goto 18, 3) := by decide +kernel
theorem dX9_likeOf_126 : decode cX9_likeOf 126 = .ok (.aload_n 0, 1) := by decide +kernel
theorem dX9_likeOf_127 : decode cX9_likeOf 127 = .ok (.getfield 31, 3) := by decide +kernel
theorem dX9_likeOf_130 : decode cX9_likeOf 130 = .ok (.iload 6, 2) := by decide +kernel
theorem dX9_likeOf_132 : decode cX9_likeOf 132 = .ok (.iaload, 1) := by decide +kernel
theorem dX9_likeOf_133 : decode cX9_likeOf 133 = .ok (.aload_n 0, 1) := by decide +kernel
theorem dX9_likeOf_134 : decode cX9_likeOf 134 = .ok (.getfield 31, 3) := by decide +kernel
theorem dX9_likeOf_137 : decode cX9_likeOf 137 = .ok (.iload 5, 2) := by decide +kernel
theorem dX9_likeOf_139 : decode cX9_likeOf 139 = .ok (.iaload, 1) := by decide +kernel
theorem dX9_likeOf_140 : decode cX9_likeOf 140 = .ok (.isub, 1) := by decide +kernel
theorem dX9_likeOf_141 : decode cX9_likeOf 141 = .ok (.istore 11, 2) := by decide +kernel
theorem dX9_likeOf_143 : decode cX9_likeOf 143 = .ok (.iload 7, 2) := by decide +kernel
theorem dX9_likeOf_145 : decode cX9_likeOf 145 = .ok (.aload_n 0, 1) := by decide +kernel
theorem dX9_likeOf_146 : decode cX9_likeOf 146 = .ok (.getfield 40, 3) := by decide +kernel
theorem dX9_likeOf_149 : decode cX9_likeOf 149 = .ok (.if_icmp .gt 55, 3) := by decide +kernel
theorem dX9_likeOf_152 : decode cX9_likeOf 152 = .ok (.iload 8, 2) := by decide +kernel
theorem dX9_likeOf_154 : decode cX9_likeOf 154 = .ok (.iload 9, 2) := by decide +kernel
theorem dX9_likeOf_156 : decode cX9_likeOf 156 = .ok (.iand, 1) := by decide +kernel
theorem dX9_likeOf_157 : decode cX9_likeOf 157 = .ok (.ifCond .eq 47, 3) := by decide +kernel
theorem dX9_likeOf_160 : decode cX9_likeOf 160 = .ok (.aload_n 0, 1) := by decide +kernel
theorem dX9_likeOf_161 : decode cX9_likeOf 161 = .ok (.iload 5, 2) := by decide +kernel
theorem dX9_likeOf_163 : decode cX9_likeOf 163 = .ok (.iload 6, 2) := by decide +kernel
theorem dX9_likeOf_165 : decode cX9_likeOf 165 = .ok (.invokevirtual 148, 3) := by decide +kernel
theorem dX9_likeOf_168 : decode cX9_likeOf 168 = .ok (.ifCond .ne 36, 3) := by decide +kernel
theorem dX9_likeOf_171 : decode cX9_likeOf 171 = .ok (.iload 11, 2) := by decide +kernel
theorem dX9_likeOf_173 : decode cX9_likeOf 173 = .ok (.ifCond .lt 31, 3) := by decide +kernel
theorem dX9_likeOf_176 : decode cX9_likeOf 176 = .ok (.iload 11, 2) := by decide +kernel
theorem dX9_likeOf_178 : decode cX9_likeOf 178 = .ok (.aload_n 0, 1) := by decide +kernel
theorem dX9_likeOf_179 : decode cX9_likeOf 179 = .ok (.getfield 16, 3) := by decide +kernel
theorem dX9_likeOf_182 : decode cX9_likeOf 182 = .ok (.iload_n 1, 1) := by decide +kernel
theorem dX9_likeOf_183 : decode cX9_likeOf 183 = .ok (.iaload, 1) := by decide +kernel
theorem dX9_likeOf_184 : decode cX9_likeOf 184 = .ok (.aload_n 0, 1) := by decide +kernel
theorem dX9_likeOf_185 : decode cX9_likeOf 185 = .ok (.getfield 16, 3) := by decide +kernel
theorem dX9_likeOf_188 : decode cX9_likeOf 188 = .ok (.iload_n 3, 1) := by decide +kernel
theorem dX9_likeOf_189 : decode cX9_likeOf 189 = .ok (.iaload, 1) := by decide +kernel
theorem dX9_likeOf_190 : decode cX9_likeOf 190 = .ok (.isub, 1) := by decide +kernel
theorem dX9_likeOf_191 : decode cX9_likeOf 191 = .ok (.invokestatic 151, 3) := by decide +kernel
theorem dX9_likeOf_194 : decode cX9_likeOf 194 = .ok (.aload_n 0, 1) := by decide +kernel
theorem dX9_likeOf_195 : decode cX9_likeOf 195 = .ok (.getfield 44, 3) := by decide +kernel
theorem dX9_likeOf_198 : decode cX9_likeOf 198 = .ok (.imul, 1) := by decide +kernel
theorem dX9_likeOf_199 : decode cX9_likeOf 199 = .ok (.iconst 5, 1) := by decide +kernel
theorem dX9_likeOf_200 : decode cX9_likeOf 200 = .ok (.iadd, 1) := by decide +kernel
theorem dX9_likeOf_201 : decode cX9_likeOf 201 = .ok (.if_icmp .le 5, 3) := by decide +kernel
theorem dX9_likeOf_204 : decode cX9_likeOf 204 = .ok (.iconst 0, 1) := by decide +kernel
theorem dX9_likeOf_205 : decode cX9_likeOf 205 = .ok (.ireturn, 1) := by decide +kernel
theorem dX9_likeOf_206 : decode cX9_likeOf 206 = .ok (.iconst 1, 1) := by decide +kernel
theorem dX9_likeOf_207 : decode cX9_likeOf 207 = .ok (.bipush 10, 2) := by decide +kernel
theorem dX9_likeOf_209 : decode cX9_likeOf 209 = .ok (.iload 8, 2) := by decide +kernel
theorem dX9_likeOf_211 : decode cX9_likeOf 211 = .ok (.iload 9, 2) := by decide +kernel
theorem dX9_likeOf_213 : decode cX9_likeOf 213 = .ok (.iand, 1) := by decide +kernel
theorem dX9_likeOf_214 : decode cX9_likeOf 214 = .ok (.invokestatic 159, 3) := by decide +kernel
theorem dX9_likeOf_217 : decode cX9_likeOf 217 = .ok (.imul, 1) := by decide +kernel
theorem dX9_likeOf_218 : decode cX9_likeOf 218 = .ok (.iconst 2, 1) := by decide +kernel
theorem dX9_likeOf_219 : decode cX9_likeOf 219 = .ok (.iload 8, 2) := by decide +kernel
theorem dX9_likeOf_221 : decode cX9_likeOf 221 = .ok (.iload 9, 2) := by decide +kernel
theorem dX9_likeOf_223 : decode cX9_likeOf 223 = .ok (.ixor, 1) := by decide +kernel
theorem dX9_likeOf_224 : decode cX9_likeOf 224 = .ok (.invokestatic 159, 3) := by decide +kernel
theorem dX9_likeOf_227 : decode cX9_likeOf 227 = .ok (.imul, 1) := by decide +kernel
theorem dX9_likeOf_228 : decode cX9_likeOf 228 = .ok (.isub, 1) := by decide +kernel
theorem dX9_likeOf_229 : decode cX9_likeOf 229 = .ok (.iload 7, 2) := by decide +kernel
theorem dX9_likeOf_231 : decode cX9_likeOf 231 = .ok (.isub, 1) := by decide +kernel
theorem dX9_likeOf_232 : decode cX9_likeOf 232 = .ok (.aload_n 0, 1) := by decide +kernel
theorem dX9_likeOf_233 : decode cX9_likeOf 233 = .ok (.getfield 28, 3) := by decide +kernel
theorem dX9_likeOf_236 : decode cX9_likeOf 236 = .ok (.iload 5, 2) := by decide +kernel
theorem dX9_likeOf_238 : decode cX9_likeOf 238 = .ok (.iaload, 1) := by decide +kernel
theorem dX9_likeOf_239 : decode cX9_likeOf 239 = .ok (.aload_n 0, 1) := by decide +kernel
theorem dX9_likeOf_240 : decode cX9_likeOf 240 = .ok (.getfield 28, 3) := by decide +kernel
theorem dX9_likeOf_243 : decode cX9_likeOf 243 = .ok (.iload 6, 2) := by decide +kernel
theorem dX9_likeOf_245 : decode cX9_likeOf 245 = .ok (.iaload, 1) := by decide +kernel
theorem dX9_likeOf_246 : decode cX9_likeOf 246 = .ok (.if_icmp .ne 8, 3) := by decide +kernel
theorem dX9_likeOf_249 : decode cX9_likeOf 249 = .ok (.bipush 7, 2) := by decide +kernel
theorem dX9_likeOf_251 : decode cX9_likeOf 251 = .ok (.goto 4, 3) := by decide +kernel
theorem dX9_likeOf_254 : decode cX9_likeOf 254 = .ok (.iconst 0, 1) := by decide +kernel
theorem dX9_likeOf_255 : decode cX9_likeOf 255 = .ok (.iadd, 1) := by decide +kernel
theorem dX9_likeOf_256 : decode cX9_likeOf 256 = .ok (.invokestatic 162, 3) := by decide +kernel
theorem dX9_likeOf_259 : decode cX9_likeOf 259 = .ok (.ireturn, 1) := by decide +kernel
theorem dX9_like_0 : decode cX9_like 0 = .ok (.aload_n 0, 1) := by decide +kernel
theorem dX9_like_1 : decode cX9_like 1 = .ok (.iload_n 1, 1) := by decide +kernel
theorem dX9_like_2 : decode cX9_like 2 = .ok (.iload_n 2, 1) := by decide +kernel
theorem dX9_like_3 : decode cX9_like 3 = .ok (.invokevirtual 145, 3) := by decide +kernel
theorem dX9_like_6 : decode cX9_like 6 = .ok (.ifCond .eq 30, 3) := by decide +kernel
theorem dX9_like_9 : decode cX9_like 9 = .ok (.aload_n 0, 1) := by decide +kernel
theorem dX9_like_10 : decode cX9_like 10 = .ok (.iload_n 3, 1) := by decide +kernel
theorem dX9_like_11 : decode cX9_like 11 = .ok (.iload 4, 2) := by decide +kernel
theorem dX9_like_13 : decode cX9_like 13 = .ok (.invokevirtual 145, 3) := by decide +kernel
theorem dX9_like_16 : decode cX9_like 16 = .ok (.ifCond .eq 20, 3) := by decide +kernel
theorem dX9_like_19 : decode cX9_like 19 = .ok (.iload_n 1, 1) := by decide +kernel
theorem dX9_like_20 : decode cX9_like 20 = .ok (.iload_n 3, 1) := by decide +kernel
theorem dX9_like_21 : decode cX9_like 21 = .ok (.if_icmp .eq 15, 3) := by decide +kernel
theorem dX9_like_24 : decode cX9_like 24 = .ok (.aload_n 0, 1) := by decide +kernel
theorem dX9_like_25 : decode cX9_like 25 = .ok (.iload_n 1, 1) := by decide +kernel
theorem dX9_like_26 : decode cX9_like 26 = .ok (.iload_n 2, 1) := by decide +kernel
theorem dX9_like_27 : decode cX9_like 27 = .ok (.iload_n 3, 1) := by decide +kernel
theorem dX9_like_28 : decode cX9_like 28 = .ok (.iload 4, 2) := by decide +kernel
theorem dX9_like_30 : decode cX9_like 30 = .ok (.invokevirtual 166, 3) := by decide +kernel
theorem dX9_like_33 : decode cX9_like 33 = .ok (.goto 8, 3) := by decide +kernel
theorem dX9_like_36 : decode cX9_like 36 = .ok (.aload_n 0, 1) := by decide +kernel
theorem dX9_like_37 : decode cX9_like 37 = .ok (.iconst (-1), 1) := by decide +kernel
theorem dX9_like_38 : decode cX9_like 38 = .ok (.invokevirtual 130, 3) := by decide +kernel
theorem dX9_like_41 : decode cX9_like 41 = .ok (.ireturn, 1) := by decide +kernel
theorem dX9_areBooks_0 : decode cX9_areBooks 0 = .ok (.iload_n 1, 1) := by decide +kernel
theorem dX9_areBooks_1 : decode cX9_areBooks 1 = .ok (.iconst 4, 1) := by decide +kernel
theorem dX9_areBooks_2 : decode cX9_areBooks 2 = .ok (.invokestatic 126, 3) := by decide +kernel
theorem dX9_areBooks_5 : decode cX9_areBooks 5 = .ok (.ifCond .eq 20, 3) := by decide +kernel
theorem dX9_areBooks_8 : decode cX9_areBooks 8 = .ok (.iload_n 2, 1) := by decide +kernel
theorem dX9_areBooks_9 : decode cX9_areBooks 9 = .ok (.iconst 4, 1) := by decide +kernel
theorem dX9_areBooks_10 : decode cX9_areBooks 10 = .ok (.invokestatic 126, 3) := by decide +kernel
theorem dX9_areBooks_13 : decode cX9_areBooks 13 = .ok (.ifCond .eq 12, 3) := by decide +kernel
theorem dX9_areBooks_16 : decode cX9_areBooks 16 = .ok (.iload_n 1, 1) := by decide +kernel
theorem dX9_areBooks_17 : decode cX9_areBooks 17 = .ok (.iload_n 2, 1) := by decide +kernel
theorem dX9_areBooks_18 : decode cX9_areBooks 18 = .ok (.if_icmp .eq 7, 3) := by decide +kernel
theorem dX9_areBooks_21 : decode cX9_areBooks 21 = .ok (.iconst 1, 1) := by decide +kernel
theorem dX9_areBooks_22 : decode cX9_areBooks 22 = .ok (.goto 4, 3) := by decide +kernel
theorem dX9_areBooks_25 : decode cX9_areBooks 25 = .ok (.iconst 0, 1) := by decide +kernel
theorem dX9_areBooks_26 : decode cX9_areBooks 26 = .ok (.ireturn, 1) := by decide +kernel
theorem dX9_measure_0 : decode cX9_measure 0 = .ok (.iconst 0, 1) := by decide +kernel
theorem dX9_measure_1 : decode cX9_measure 1 = .ok (.istore_n 3, 1) := by decide +kernel
theorem dX9_measure_2 : decode cX9_measure 2 = .ok (.iload_n 3, 1) := by decide +kernel
theorem dX9_measure_3 : decode cX9_measure 3 = .ok (.aload_n 0, 1) := by decide +kernel
theorem dX9_measure_4 : decode cX9_measure 4 = .ok (.getfield 19, 3) := by decide +kernel
theorem dX9_measure_7 : decode cX9_measure 7 = .ok (.iload_n 1, 1) := by decide +kernel
theorem dX9_measure_8 : decode cX9_measure 8 = .ok (.iaload, 1) := by decide +kernel
theorem dX9_measure_9 : decode cX9_measure 9 = .ok (.if_icmp .ge 50, 3) := by decide +kernel
theorem dX9_measure_12 : decode cX9_measure 12 = .ok (.iconst 0, 1) := by decide +kernel
theorem dX9_measure_13 : decode cX9_measure 13 = .ok (.istore 4, 2) := by decide +kernel
theorem dX9_measure_15 : decode cX9_measure 15 = .ok (.iload 4, 2) := by decide +kernel
theorem dX9_measure_17 : decode cX9_measure 17 = .ok (.aload_n 0, 1) := by decide +kernel
theorem dX9_measure_18 : decode cX9_measure 18 = .ok (.getfield 19, 3) := by decide +kernel
theorem dX9_measure_21 : decode cX9_measure 21 = .ok (.iload_n 2, 1) := by decide +kernel
theorem dX9_measure_22 : decode cX9_measure 22 = .ok (.iaload, 1) := by decide +kernel
theorem dX9_measure_23 : decode cX9_measure 23 = .ok (.if_icmp .ge 30, 3) := by decide +kernel
theorem dX9_measure_26 : decode cX9_measure 26 = .ok (.aload_n 0, 1) := by decide +kernel
theorem dX9_measure_27 : decode cX9_measure 27 = .ok (.getfield 47, 3) := by decide +kernel
theorem dX9_measure_30 : decode cX9_measure 30 = .ok (.bipush 10, 2) := by decide +kernel
theorem dX9_measure_32 : decode cX9_measure 32 = .ok (.iload_n 3, 1) := by decide +kernel
theorem dX9_measure_33 : decode cX9_measure 33 = .ok (.imul, 1) := by decide +kernel
theorem dX9_measure_34 : decode cX9_measure 34 = .ok (.iload 4, 2) := by decide +kernel
theorem dX9_measure_36 : decode cX9_measure 36 = .ok (.iadd, 1) := by decide +kernel
theorem dX9_measure_37 : decode cX9_measure 37 = .ok (.aload_n 0, 1) := by decide +kernel
theorem dX9_measure_38 : decode cX9_measure 38 = .ok (.iload_n 1, 1) := by decide +kernel
theorem dX9_measure_39 : decode cX9_measure 39 = .ok (.iload_n 3, 1) := by decide +kernel
theorem dX9_measure_40 : decode cX9_measure 40 = .ok (.iload_n 2, 1) := by decide +kernel
theorem dX9_measure_41 : decode cX9_measure 41 = .ok (.iload 4, 2) := by decide +kernel
theorem dX9_measure_43 : decode cX9_measure 43 = .ok (.invokevirtual 166, 3) := by decide +kernel
theorem dX9_measure_46 : decode cX9_measure 46 = .ok (.iastore, 1) := by decide +kernel
theorem dX9_measure_47 : decode cX9_measure 47 = .ok (.iinc 4 1, 3) := by decide +kernel
theorem dX9_measure_50 : decode cX9_measure 50 = .ok (.goto (-35), 3) := by decide +kernel
theorem dX9_measure_53 : decode cX9_measure 53 = .ok (.iinc 3 1, 3) := by decide +kernel
theorem dX9_measure_56 : decode cX9_measure 56 = .ok (.goto (-54), 3) := by decide +kernel
theorem dX9_measure_59 : decode cX9_measure 59 = .ok (.return_, 1) := by decide +kernel
theorem dX9_at_0 : decode cX9_at 0 = .ok (.iload_n 0, 1) := by decide +kernel
theorem dX9_at_1 : decode cX9_at 1 = .ok (.bipush 10, 2) := by decide +kernel
theorem dX9_at_3 : decode cX9_at 3 = .ok (.ishl, 1) := by decide +kernel
theorem dX9_at_4 : decode cX9_at 4 = .ok (.iload_n 1, 1) := by decide +kernel
theorem dX9_at_5 : decode cX9_at 5 = .ok (.iadd, 1) := by decide +kernel
theorem dX9_at_6 : decode cX9_at 6 = .ok (.ireturn, 1) := by decide +kernel
theorem dX9_finds_0 : decode cX9_finds 0 = .ok (.iconst 1, 1) := by decide +kernel
theorem dX9_finds_1 : decode cX9_finds 1 = .ok (.iload_n 2, 1) := by decide +kernel
theorem dX9_finds_2 : decode cX9_finds 2 = .ok (.ishl, 1) := by decide +kernel
theorem dX9_finds_3 : decode cX9_finds 3 = .ok (.istore_n 3, 1) := by decide +kernel
theorem dX9_finds_4 : decode cX9_finds 4 = .ok (.iconst 0, 1) := by decide +kernel
theorem dX9_finds_5 : decode cX9_finds 5 = .ok (.istore 4, 2) := by decide +kernel
theorem dX9_finds_7 : decode cX9_finds 7 = .ok (.iload 4, 2) := by decide +kernel
theorem dX9_finds_9 : decode cX9_finds 9 = .ok (.iload_n 3, 1) := by decide +kernel
theorem dX9_finds_10 : decode cX9_finds 10 = .ok (.if_icmp .ge 33, 3) := by decide +kernel
theorem dX9_finds_13 : decode cX9_finds 13 = .ok (.aload_n 0, 1) := by decide +kernel
theorem dX9_finds_14 : decode cX9_finds 14 = .ok (.getfield 50, 3) := by decide +kernel
theorem dX9_finds_17 : decode cX9_finds 17 = .ok (.iload_n 1, 1) := by decide +kernel
theorem dX9_finds_18 : decode cX9_finds 18 = .ok (.iload 4, 2) := by decide +kernel
theorem dX9_finds_20 : decode cX9_finds 20 = .ok (.invokestatic 170, 3) := by decide +kernel
theorem dX9_finds_23 : decode cX9_finds 23 = .ok (.iconst 0, 1) := by decide +kernel
theorem dX9_finds_24 : decode cX9_finds 24 = .ok (.iastore, 1) := by decide +kernel
theorem dX9_finds_25 : decode cX9_finds 25 = .ok (.aload_n 0, 1) := by decide +kernel
theorem dX9_finds_26 : decode cX9_finds 26 = .ok (.getfield 56, 3) := by decide +kernel
theorem dX9_finds_29 : decode cX9_finds 29 = .ok (.iload_n 1, 1) := by decide +kernel
theorem dX9_finds_30 : decode cX9_finds 30 = .ok (.iload 4, 2) := by decide +kernel
theorem dX9_finds_32 : decode cX9_finds 32 = .ok (.invokestatic 170, 3) := by decide +kernel
theorem dX9_finds_35 : decode cX9_finds 35 = .ok (.iconst 1, 1) := by decide +kernel
theorem dX9_finds_36 : decode cX9_finds 36 = .ok (.iastore, 1) := by decide +kernel
theorem dX9_finds_37 : decode cX9_finds 37 = .ok (.iinc 4 1, 3) := by decide +kernel
theorem dX9_finds_40 : decode cX9_finds 40 = .ok (.goto (-33), 3) := by decide +kernel
theorem dX9_finds_43 : decode cX9_finds 43 = .ok (.iload_n 1, 1) := by decide +kernel
theorem dX9_finds_44 : decode cX9_finds 44 = .ok (.iconst 1, 1) := by decide +kernel
theorem dX9_finds_45 : decode cX9_finds 45 = .ok (.isub, 1) := by decide +kernel
theorem dX9_finds_46 : decode cX9_finds 46 = .ok (.istore 4, 2) := by decide +kernel
theorem dX9_finds_48 : decode cX9_finds 48 = .ok (.iload 4, 2) := by decide +kernel
theorem dX9_finds_50 : decode cX9_finds 50 = .ok (.ifCond .lt 212, 3) := by decide +kernel
theorem dX9_finds_53 : decode cX9_finds 53 = .ok (.iconst 0, 1) := by decide +kernel
theorem dX9_finds_54 : decode cX9_finds 54 = .ok (.istore 5, 2) := by decide +kernel
theorem dX9_finds_56 : decode cX9_finds 56 = .ok (.iload 5, 2) := by decide +kernel
theorem dX9_finds_58 : decode cX9_finds 58 = .ok (.iload_n 3, 1) := by decide +kernel
theorem dX9_finds_59 : decode cX9_finds 59 = .ok (.if_icmp .ge 197, 3) := by decide +kernel
theorem dX9_finds_62 : decode cX9_finds 62 = .ok (.aload_n 0, 1) := by decide +kernel
theorem dX9_finds_63 : decode cX9_finds 63 = .ok (.getfield 50, 3) := by decide +kernel
theorem dX9_finds_66 : decode cX9_finds 66 = .ok (.iload 4, 2) := by decide +kernel
theorem dX9_finds_68 : decode cX9_finds 68 = .ok (.iconst 1, 1) := by decide +kernel
theorem dX9_finds_69 : decode cX9_finds 69 = .ok (.iadd, 1) := by decide +kernel
theorem dX9_finds_70 : decode cX9_finds 70 = .ok (.iload 5, 2) := by decide +kernel
theorem dX9_finds_72 : decode cX9_finds 72 = .ok (.invokestatic 170, 3) := by decide +kernel
theorem dX9_finds_75 : decode cX9_finds 75 = .ok (.iaload, 1) := by decide +kernel
theorem dX9_finds_76 : decode cX9_finds 76 = .ok (.istore 6, 2) := by decide +kernel
theorem dX9_finds_78 : decode cX9_finds 78 = .ok (.aload_n 0, 1) := by decide +kernel
theorem dX9_finds_79 : decode cX9_finds 79 = .ok (.getfield 56, 3) := by decide +kernel
theorem dX9_finds_82 : decode cX9_finds 82 = .ok (.iload 4, 2) := by decide +kernel
theorem dX9_finds_84 : decode cX9_finds 84 = .ok (.iconst 1, 1) := by decide +kernel
theorem dX9_finds_85 : decode cX9_finds 85 = .ok (.iadd, 1) := by decide +kernel
theorem dX9_finds_86 : decode cX9_finds 86 = .ok (.iload 5, 2) := by decide +kernel
theorem dX9_finds_88 : decode cX9_finds 88 = .ok (.invokestatic 170, 3) := by decide +kernel
theorem dX9_finds_91 : decode cX9_finds 91 = .ok (.iaload, 1) := by decide +kernel
theorem dX9_finds_92 : decode cX9_finds 92 = .ok (.istore 7, 2) := by decide +kernel
theorem dX9_finds_94 : decode cX9_finds 94 = .ok (.iconst 0, 1) := by decide +kernel
theorem dX9_finds_95 : decode cX9_finds 95 = .ok (.istore 8, 2) := by decide +kernel
theorem dX9_finds_97 : decode cX9_finds 97 = .ok (.iload 8, 2) := by decide +kernel
theorem dX9_finds_99 : decode cX9_finds 99 = .ok (.iload_n 2, 1) := by decide +kernel
theorem dX9_finds_100 : decode cX9_finds 100 = .ok (.if_icmp .ge 122, 3) := by decide +kernel
theorem dX9_finds_103 : decode cX9_finds 103 = .ok (.aload_n 0, 1) := by decide +kernel
theorem dX9_finds_104 : decode cX9_finds 104 = .ok (.getfield 47, 3) := by decide +kernel
theorem dX9_finds_107 : decode cX9_finds 107 = .ok (.bipush 10, 2) := by decide +kernel
theorem dX9_finds_109 : decode cX9_finds 109 = .ok (.iload 4, 2) := by decide +kernel
theorem dX9_finds_111 : decode cX9_finds 111 = .ok (.imul, 1) := by decide +kernel
theorem dX9_finds_112 : decode cX9_finds 112 = .ok (.iload 8, 2) := by decide +kernel
theorem dX9_finds_114 : decode cX9_finds 114 = .ok (.iadd, 1) := by decide +kernel
theorem dX9_finds_115 : decode cX9_finds 115 = .ok (.iaload, 1) := by decide +kernel
theorem dX9_finds_116 : decode cX9_finds 116 = .ok (.istore 9, 2) := by decide +kernel
theorem dX9_finds_118 : decode cX9_finds 118 = .ok (.iload 9, 2) := by decide +kernel
theorem dX9_finds_120 : decode cX9_finds 120 = .ok (.ifCond .eq 96, 3) := by decide +kernel
theorem dX9_finds_123 : decode cX9_finds 123 = .ok (.iload 5, 2) := by decide +kernel
theorem dX9_finds_125 : decode cX9_finds 125 = .ok (.iload 8, 2) := by decide +kernel
theorem dX9_finds_127 : decode cX9_finds 127 = .ok (.ishr, 1) := by decide +kernel
theorem dX9_finds_128 : decode cX9_finds 128 = .ok (.iconst 1, 1) := by decide +kernel
theorem dX9_finds_129 : decode cX9_finds 129 = .ok (.iand, 1) := by decide +kernel
theorem dX9_finds_130 : decode cX9_finds 130 = .ok (.iconst 1, 1) := by decide +kernel
theorem dX9_finds_131 : decode cX9_finds 131 = .ok (.if_icmp .ne 6, 3) := by decide +kernel
theorem dX9_finds_134 : decode cX9_finds 134 = .ok (.goto 82, 3) := by decide +kernel
theorem dX9_finds_137 : decode cX9_finds 137 = .ok (.iload 9, 2) := by decide +kernel
theorem dX9_finds_139 : decode cX9_finds 139 = .ok (.aload_n 0, 1) := by decide +kernel
theorem dX9_finds_140 : decode cX9_finds 140 = .ok (.getfield 50, 3) := by decide +kernel
theorem dX9_finds_143 : decode cX9_finds 143 = .ok (.iload 4, 2) := by decide +kernel
theorem dX9_finds_145 : decode cX9_finds 145 = .ok (.iconst 1, 1) := by decide +kernel
theorem dX9_finds_146 : decode cX9_finds 146 = .ok (.iadd, 1) := by decide +kernel
theorem dX9_finds_147 : decode cX9_finds 147 = .ok (.iload 5, 2) := by decide +kernel
theorem dX9_finds_149 : decode cX9_finds 149 = .ok (.iconst 1, 1) := by decide +kernel
theorem dX9_finds_150 : decode cX9_finds 150 = .ok (.iload 8, 2) := by decide +kernel
theorem dX9_finds_152 : decode cX9_finds 152 = .ok (.ishl, 1) := by decide +kernel
theorem dX9_finds_153 : decode cX9_finds 153 = .ok (.ior, 1) := by decide +kernel
theorem dX9_finds_154 : decode cX9_finds 154 = .ok (.invokestatic 170, 3) := by decide +kernel
theorem dX9_finds_157 : decode cX9_finds 157 = .ok (.iaload, 1) := by decide +kernel
theorem dX9_finds_158 : decode cX9_finds 158 = .ok (.iadd, 1) := by decide +kernel
theorem dX9_finds_159 : decode cX9_finds 159 = .ok (.istore 10, 2) := by decide +kernel
theorem dX9_finds_161 : decode cX9_finds 161 = .ok (.iload 10, 2) := by decide +kernel
theorem dX9_finds_163 : decode cX9_finds 163 = .ok (.iload 6, 2) := by decide +kernel
theorem dX9_finds_165 : decode cX9_finds 165 = .ok (.if_icmp .le 6, 3) := by decide +kernel
theorem dX9_finds_168 : decode cX9_finds 168 = .ok (.iconst 0, 1) := by decide +kernel
theorem dX9_finds_169 : decode cX9_finds 169 = .ok (.istore 7, 2) := by decide +kernel
theorem dX9_finds_171 : decode cX9_finds 171 = .ok (.iload 10, 2) := by decide +kernel
theorem dX9_finds_173 : decode cX9_finds 173 = .ok (.iload 6, 2) := by decide +kernel
theorem dX9_finds_175 : decode cX9_finds 175 = .ok (.if_icmp .lt 32, 3) := by decide +kernel
theorem dX9_finds_178 : decode cX9_finds 178 = .ok (.ldc 173, 2) := by decide +kernel
theorem dX9_finds_180 : decode cX9_finds 180 = .ok (.iload 7, 2) := by decide +kernel
theorem dX9_finds_182 : decode cX9_finds 182 = .ok (.aload_n 0, 1) := by decide +kernel
theorem dX9_finds_183 : decode cX9_finds 183 = .ok (.getfield 56, 3) := by decide +kernel
theorem dX9_finds_186 : decode cX9_finds 186 = .ok (.iload 4, 2) := by decide +kernel
theorem dX9_finds_188 : decode cX9_finds 188 = .ok (.iconst 1, 1) := by decide +kernel
theorem dX9_finds_189 : decode cX9_finds 189 = .ok (.iadd, 1) := by decide +kernel
theorem dX9_finds_190 : decode cX9_finds 190 = .ok (.iload 5, 2) := by decide +kernel
theorem dX9_finds_192 : decode cX9_finds 192 = .ok (.iconst 1, 1) := by decide +kernel
theorem dX9_finds_193 : decode cX9_finds 193 = .ok (.iload 8, 2) := by decide +kernel
theorem dX9_finds_195 : decode cX9_finds 195 = .ok (.ishl, 1) := by decide +kernel
theorem dX9_finds_196 : decode cX9_finds 196 = .ok (.ior, 1) := by decide +kernel
theorem dX9_finds_197 : decode cX9_finds 197 = .ok (.invokestatic 170, 3) := by decide +kernel
theorem dX9_finds_200 : decode cX9_finds 200 = .ok (.iaload, 1) := by decide +kernel
theorem dX9_finds_201 : decode cX9_finds 201 = .ok (.iadd, 1) := by decide +kernel
theorem dX9_finds_202 : decode cX9_finds 202 = .ok (.invokestatic 174, 3) := by decide +kernel
theorem dX9_finds_205 : decode cX9_finds 205 = .ok (.istore 7, 2) := by decide +kernel
theorem dX9_finds_207 : decode cX9_finds 207 = .ok (.iload 6, 2) := by decide +kernel
theorem dX9_finds_209 : decode cX9_finds 209 = .ok (.iload 10, 2) := by decide +kernel
theorem dX9_finds_211 : decode cX9_finds 211 = .ok (.invokestatic 162, 3) := by decide +kernel
theorem dX9_finds_214 : decode cX9_finds 214 = .ok (.istore 6, 2) := by decide +kernel
theorem dX9_finds_216 : decode cX9_finds 216 = .ok (.iinc 8 1, 3) := by decide +kernel
theorem dX9_finds_219 : decode cX9_finds 219 = .ok (.goto (-122), 3) := by decide +kernel
theorem dX9_finds_222 : decode cX9_finds 222 = .ok (.aload_n 0, 1) := by decide +kernel
theorem dX9_finds_223 : decode cX9_finds 223 = .ok (.getfield 50, 3) := by decide +kernel
theorem dX9_finds_226 : decode cX9_finds 226 = .ok (.iload 4, 2) := by decide +kernel
theorem dX9_finds_228 : decode cX9_finds 228 = .ok (.iload 5, 2) := by decide +kernel
theorem dX9_finds_230 : decode cX9_finds 230 = .ok (.invokestatic 170, 3) := by decide +kernel
theorem dX9_finds_233 : decode cX9_finds 233 = .ok (.iload 6, 2) := by decide +kernel
theorem dX9_finds_235 : decode cX9_finds 235 = .ok (.iastore, 1) := by decide +kernel
theorem dX9_finds_236 : decode cX9_finds 236 = .ok (.aload_n 0, 1) := by decide +kernel
theorem dX9_finds_237 : decode cX9_finds 237 = .ok (.getfield 56, 3) := by decide +kernel
theorem dX9_finds_240 : decode cX9_finds 240 = .ok (.iload 4, 2) := by decide +kernel
theorem dX9_finds_242 : decode cX9_finds 242 = .ok (.iload 5, 2) := by decide +kernel
theorem dX9_finds_244 : decode cX9_finds 244 = .ok (.invokestatic 170, 3) := by decide +kernel
theorem dX9_finds_247 : decode cX9_finds 247 = .ok (.iload 7, 2) := by decide +kernel
theorem dX9_finds_249 : decode cX9_finds 249 = .ok (.iastore, 1) := by decide +kernel
theorem dX9_finds_250 : decode cX9_finds 250 = .ok (.iinc 5 1, 3) := by decide +kernel
theorem dX9_finds_253 : decode cX9_finds 253 = .ok (.goto (-197), 3) := by decide +kernel
theorem dX9_finds_256 : decode cX9_finds 256 = .ok (.iinc 4 (-1), 3) := by decide +kernel
theorem dX9_finds_259 : decode cX9_finds 259 = .ok (.goto (-211), 3) := by decide +kernel
theorem dX9_finds_262 : decode cX9_finds 262 = .ok (.aload_n 0, 1) := by decide +kernel
theorem dX9_finds_263 : decode cX9_finds 263 = .ok (.getfield 50, 3) := by decide +kernel
theorem dX9_finds_266 : decode cX9_finds 266 = .ok (.iconst 0, 1) := by decide +kernel
theorem dX9_finds_267 : decode cX9_finds 267 = .ok (.iaload, 1) := by decide +kernel
theorem dX9_finds_268 : decode cX9_finds 268 = .ok (.ireturn, 1) := by decide +kernel
theorem dX9_joins_0 : decode cX9_joins 0 = .ok (.aload_n 0, 1) := by decide +kernel
theorem dX9_joins_1 : decode cX9_joins 1 = .ok (.iload_n 1, 1) := by decide +kernel
theorem dX9_joins_2 : decode cX9_joins 2 = .ok (.iload_n 2, 1) := by decide +kernel
theorem dX9_joins_3 : decode cX9_joins 3 = .ok (.invokevirtual 177, 3) := by decide +kernel
theorem dX9_joins_6 : decode cX9_joins 6 = .ok (.aload_n 0, 1) := by decide +kernel
theorem dX9_joins_7 : decode cX9_joins 7 = .ok (.aload_n 0, 1) := by decide +kernel
theorem dX9_joins_8 : decode cX9_joins 8 = .ok (.getfield 19, 3) := by decide +kernel
theorem dX9_joins_11 : decode cX9_joins 11 = .ok (.iload_n 1, 1) := by decide +kernel
theorem dX9_joins_12 : decode cX9_joins 12 = .ok (.iaload, 1) := by decide +kernel
theorem dX9_joins_13 : decode cX9_joins 13 = .ok (.aload_n 0, 1) := by decide +kernel
theorem dX9_joins_14 : decode cX9_joins 14 = .ok (.getfield 19, 3) := by decide +kernel
theorem dX9_joins_17 : decode cX9_joins 17 = .ok (.iload_n 2, 1) := by decide +kernel
theorem dX9_joins_18 : decode cX9_joins 18 = .ok (.iaload, 1) := by decide +kernel
theorem dX9_joins_19 : decode cX9_joins 19 = .ok (.invokevirtual 181, 3) := by decide +kernel
theorem dX9_joins_22 : decode cX9_joins 22 = .ok (.istore_n 3, 1) := by decide +kernel
theorem dX9_joins_23 : decode cX9_joins 23 = .ok (.iconst 0, 1) := by decide +kernel
theorem dX9_joins_24 : decode cX9_joins 24 = .ok (.istore 4, 2) := by decide +kernel
theorem dX9_joins_26 : decode cX9_joins 26 = .ok (.iconst 0, 1) := by decide +kernel
theorem dX9_joins_27 : decode cX9_joins 27 = .ok (.istore 5, 2) := by decide +kernel
theorem dX9_joins_29 : decode cX9_joins 29 = .ok (.iload 5, 2) := by decide +kernel
theorem dX9_joins_31 : decode cX9_joins 31 = .ok (.aload_n 0, 1) := by decide +kernel
theorem dX9_joins_32 : decode cX9_joins 32 = .ok (.getfield 19, 3) := by decide +kernel
theorem dX9_joins_35 : decode cX9_joins 35 = .ok (.iload_n 1, 1) := by decide +kernel
theorem dX9_joins_36 : decode cX9_joins 36 = .ok (.iaload, 1) := by decide +kernel
theorem dX9_joins_37 : decode cX9_joins 37 = .ok (.if_icmp .ge 148, 3) := by decide +kernel
theorem dX9_joins_40 : decode cX9_joins 40 = .ok (.aload_n 0, 1) := by decide +kernel
theorem dX9_joins_41 : decode cX9_joins 41 = .ok (.getfield 53, 3) := by decide +kernel
theorem dX9_joins_44 : decode cX9_joins 44 = .ok (.iload 5, 2) := by decide +kernel
theorem dX9_joins_46 : decode cX9_joins 46 = .ok (.bipush (-9), 2) := by decide +kernel
theorem dX9_joins_48 : decode cX9_joins 48 = .ok (.iastore, 1) := by decide +kernel
theorem dX9_joins_49 : decode cX9_joins 49 = .ok (.iconst 0, 1) := by decide +kernel
theorem dX9_joins_50 : decode cX9_joins 50 = .ok (.istore 6, 2) := by decide +kernel
theorem dX9_joins_52 : decode cX9_joins 52 = .ok (.iload 6, 2) := by decide +kernel
theorem dX9_joins_54 : decode cX9_joins 54 = .ok (.aload_n 0, 1) := by decide +kernel
theorem dX9_joins_55 : decode cX9_joins 55 = .ok (.getfield 19, 3) := by decide +kernel
theorem dX9_joins_58 : decode cX9_joins 58 = .ok (.iload_n 2, 1) := by decide +kernel
theorem dX9_joins_59 : decode cX9_joins 59 = .ok (.iaload, 1) := by decide +kernel
theorem dX9_joins_60 : decode cX9_joins 60 = .ok (.if_icmp .ge 95, 3) := by decide +kernel
theorem dX9_joins_63 : decode cX9_joins 63 = .ok (.aload_n 0, 1) := by decide +kernel
theorem dX9_joins_64 : decode cX9_joins 64 = .ok (.getfield 53, 3) := by decide +kernel
theorem dX9_joins_67 : decode cX9_joins 67 = .ok (.iload 5, 2) := by decide +kernel
theorem dX9_joins_69 : decode cX9_joins 69 = .ok (.iaload, 1) := by decide +kernel
theorem dX9_joins_70 : decode cX9_joins 70 = .ok (.ifCond .ge 85, 3) := by decide +kernel
theorem dX9_joins_73 : decode cX9_joins 73 = .ok (.aload_n 0, 1) := by decide +kernel
theorem dX9_joins_74 : decode cX9_joins 74 = .ok (.getfield 47, 3) := by decide +kernel
theorem dX9_joins_77 : decode cX9_joins 77 = .ok (.bipush 10, 2) := by decide +kernel
theorem dX9_joins_79 : decode cX9_joins 79 = .ok (.iload 5, 2) := by decide +kernel
theorem dX9_joins_81 : decode cX9_joins 81 = .ok (.imul, 1) := by decide +kernel
theorem dX9_joins_82 : decode cX9_joins 82 = .ok (.iload 6, 2) := by decide +kernel
theorem dX9_joins_84 : decode cX9_joins 84 = .ok (.iadd, 1) := by decide +kernel
theorem dX9_joins_85 : decode cX9_joins 85 = .ok (.iaload, 1) := by decide +kernel
theorem dX9_joins_86 : decode cX9_joins 86 = .ok (.istore 7, 2) := by decide +kernel
theorem dX9_joins_88 : decode cX9_joins 88 = .ok (.iload 7, 2) := by decide +kernel
theorem dX9_joins_90 : decode cX9_joins 90 = .ok (.ifCond .le 59, 3) := by decide +kernel
theorem dX9_joins_93 : decode cX9_joins 93 = .ok (.iload 4, 2) := by decide +kernel
theorem dX9_joins_95 : decode cX9_joins 95 = .ok (.iload 6, 2) := by decide +kernel
theorem dX9_joins_97 : decode cX9_joins 97 = .ok (.ishr, 1) := by decide +kernel
theorem dX9_joins_98 : decode cX9_joins 98 = .ok (.iconst 1, 1) := by decide +kernel
theorem dX9_joins_99 : decode cX9_joins 99 = .ok (.iand, 1) := by decide +kernel
theorem dX9_joins_100 : decode cX9_joins 100 = .ok (.ifCond .ne 49, 3) := by decide +kernel
theorem dX9_joins_103 : decode cX9_joins 103 = .ok (.iload 7, 2) := by decide +kernel
theorem dX9_joins_105 : decode cX9_joins 105 = .ok (.aload_n 0, 1) := by decide +kernel
theorem dX9_joins_106 : decode cX9_joins 106 = .ok (.getfield 50, 3) := by decide +kernel
theorem dX9_joins_109 : decode cX9_joins 109 = .ok (.iload 5, 2) := by decide +kernel
theorem dX9_joins_111 : decode cX9_joins 111 = .ok (.iconst 1, 1) := by decide +kernel
theorem dX9_joins_112 : decode cX9_joins 112 = .ok (.iadd, 1) := by decide +kernel
theorem dX9_joins_113 : decode cX9_joins 113 = .ok (.iload 4, 2) := by decide +kernel
theorem dX9_joins_115 : decode cX9_joins 115 = .ok (.iconst 1, 1) := by decide +kernel
theorem dX9_joins_116 : decode cX9_joins 116 = .ok (.iload 6, 2) := by decide +kernel
theorem dX9_joins_118 : decode cX9_joins 118 = .ok (.ishl, 1) := by decide +kernel
theorem dX9_joins_119 : decode cX9_joins 119 = .ok (.ior, 1) := by decide +kernel
theorem dX9_joins_120 : decode cX9_joins 120 = .ok (.invokestatic 170, 3) := by decide +kernel
theorem dX9_joins_123 : decode cX9_joins 123 = .ok (.iaload, 1) := by decide +kernel
theorem dX9_joins_124 : decode cX9_joins 124 = .ok (.iadd, 1) := by decide +kernel
theorem dX9_joins_125 : decode cX9_joins 125 = .ok (.aload_n 0, 1) := by decide +kernel
theorem dX9_joins_126 : decode cX9_joins 126 = .ok (.getfield 50, 3) := by decide +kernel
theorem dX9_joins_129 : decode cX9_joins 129 = .ok (.iload 5, 2) := by decide +kernel
theorem dX9_joins_131 : decode cX9_joins 131 = .ok (.iload 4, 2) := by decide +kernel
theorem dX9_joins_133 : decode cX9_joins 133 = .ok (.invokestatic 170, 3) := by decide +kernel
theorem dX9_joins_136 : decode cX9_joins 136 = .ok (.iaload, 1) := by decide +kernel
theorem dX9_joins_137 : decode cX9_joins 137 = .ok (.if_icmp .ne 12, 3) := by decide +kernel
theorem dX9_joins_140 : decode cX9_joins 140 = .ok (.aload_n 0, 1) := by decide +kernel
theorem dX9_joins_141 : decode cX9_joins 141 = .ok (.getfield 53, 3) := by decide +kernel
theorem dX9_joins_144 : decode cX9_joins 144 = .ok (.iload 5, 2) := by decide +kernel
theorem dX9_joins_146 : decode cX9_joins 146 = .ok (.iload 6, 2) := by decide +kernel
theorem dX9_joins_148 : decode cX9_joins 148 = .ok (.iastore, 1) := by decide +kernel
theorem dX9_joins_149 : decode cX9_joins 149 = .ok (.iinc 6 1, 3) := by decide +kernel
theorem dX9_joins_152 : decode cX9_joins 152 = .ok (.goto (-100), 3) := by decide +kernel
theorem dX9_joins_155 : decode cX9_joins 155 = .ok (.aload_n 0, 1) := by decide +kernel
theorem dX9_joins_156 : decode cX9_joins 156 = .ok (.getfield 53, 3) := by decide +kernel
theorem dX9_joins_159 : decode cX9_joins 159 = .ok (.iload 5, 2) := by decide +kernel
theorem dX9_joins_161 : decode cX9_joins 161 = .ok (.iaload, 1) := by decide +kernel
theorem dX9_joins_162 : decode cX9_joins 162 = .ok (.ifCond .lt 17, 3) := by decide +kernel
theorem dX9_joins_165 : decode cX9_joins 165 = .ok (.iload 4, 2) := by decide +kernel
theorem dX9_joins_167 : decode cX9_joins 167 = .ok (.iconst 1, 1) := by decide +kernel
theorem dX9_joins_168 : decode cX9_joins 168 = .ok (.aload_n 0, 1) := by decide +kernel
theorem dX9_joins_169 : decode cX9_joins 169 = .ok (.getfield 53, 3) := by decide +kernel
theorem dX9_joins_172 : decode cX9_joins 172 = .ok (.iload 5, 2) := by decide +kernel
theorem dX9_joins_174 : decode cX9_joins 174 = .ok (.iaload, 1) := by decide +kernel
theorem dX9_joins_175 : decode cX9_joins 175 = .ok (.ishl, 1) := by decide +kernel
theorem dX9_joins_176 : decode cX9_joins 176 = .ok (.ior, 1) := by decide +kernel
theorem dX9_joins_177 : decode cX9_joins 177 = .ok (.istore 4, 2) := by decide +kernel
theorem dX9_joins_179 : decode cX9_joins 179 = .ok (.iinc 5 1, 3) := by decide +kernel
theorem dX9_joins_182 : decode cX9_joins 182 = .ok (.goto (-153), 3) := by decide +kernel
theorem dX9_joins_185 : decode cX9_joins 185 = .ok (.iload_n 3, 1) := by decide +kernel
theorem dX9_joins_186 : decode cX9_joins 186 = .ok (.ireturn, 1) := by decide +kernel
theorem dX9_join_0 : decode cX9_join 0 = .ok (.aload_n 0, 1) := by decide +kernel
theorem dX9_join_1 : decode cX9_join 1 = .ok (.iload_n 1, 1) := by decide +kernel
theorem dX9_join_2 : decode cX9_join 2 = .ok (.iload_n 2, 1) := by decide +kernel
theorem dX9_join_3 : decode cX9_join 3 = .ok (.invokevirtual 184, 3) := by decide +kernel
theorem dX9_join_6 : decode cX9_join 6 = .ok (.ifCond .eq 12, 3) := by decide +kernel
theorem dX9_join_9 : decode cX9_join 9 = .ok (.aload_n 0, 1) := by decide +kernel
theorem dX9_join_10 : decode cX9_join 10 = .ok (.iload_n 1, 1) := by decide +kernel
theorem dX9_join_11 : decode cX9_join 11 = .ok (.iload_n 2, 1) := by decide +kernel
theorem dX9_join_12 : decode cX9_join 12 = .ok (.invokevirtual 187, 3) := by decide +kernel
theorem dX9_join_15 : decode cX9_join 15 = .ok (.goto 8, 3) := by decide +kernel
theorem dX9_join_18 : decode cX9_join 18 = .ok (.aload_n 0, 1) := by decide +kernel
theorem dX9_join_19 : decode cX9_join 19 = .ok (.iconst (-1), 1) := by decide +kernel
theorem dX9_join_20 : decode cX9_join 20 = .ok (.invokevirtual 130, 3) := by decide +kernel
theorem dX9_join_23 : decode cX9_join 23 = .ok (.ireturn, 1) := by decide +kernel
theorem dX9_joined_0 : decode cX9_joined 0 = .ok (.aload_n 0, 1) := by decide +kernel
theorem dX9_joined_1 : decode cX9_joined 1 = .ok (.iload_n 1, 1) := by decide +kernel
theorem dX9_joined_2 : decode cX9_joined 2 = .ok (.iload_n 3, 1) := by decide +kernel
theorem dX9_joined_3 : decode cX9_joined 3 = .ok (.invokevirtual 184, 3) := by decide +kernel
theorem dX9_joined_6 : decode cX9_joined 6 = .ok (.ifCond .eq 16, 3) := by decide +kernel
theorem dX9_joined_9 : decode cX9_joined 9 = .ok (.iload_n 2, 1) := by decide +kernel
theorem dX9_joined_10 : decode cX9_joined 10 = .ok (.aload_n 0, 1) := by decide +kernel
theorem dX9_joined_11 : decode cX9_joined 11 = .ok (.getfield 19, 3) := by decide +kernel
theorem dX9_joined_14 : decode cX9_joined 14 = .ok (.iload_n 1, 1) := by decide +kernel
theorem dX9_joined_15 : decode cX9_joined 15 = .ok (.iaload, 1) := by decide +kernel
theorem dX9_joined_16 : decode cX9_joined 16 = .ok (.invokestatic 126, 3) := by decide +kernel
theorem dX9_joined_19 : decode cX9_joined 19 = .ok (.ifCond .ne 9, 3) := by decide +kernel
theorem dX9_joined_22 : decode cX9_joined 22 = .ok (.aload_n 0, 1) := by decide +kernel
theorem dX9_joined_23 : decode cX9_joined 23 = .ok (.iconst (-1), 1) := by decide +kernel
theorem dX9_joined_24 : decode cX9_joined 24 = .ok (.invokevirtual 130, 3) := by decide +kernel
theorem dX9_joined_27 : decode cX9_joined 27 = .ok (.ireturn, 1) := by decide +kernel
theorem dX9_joined_28 : decode cX9_joined 28 = .ok (.aload_n 0, 1) := by decide +kernel
theorem dX9_joined_29 : decode cX9_joined 29 = .ok (.iload_n 1, 1) := by decide +kernel
theorem dX9_joined_30 : decode cX9_joined 30 = .ok (.iload_n 3, 1) := by decide +kernel
theorem dX9_joined_31 : decode cX9_joined 31 = .ok (.invokevirtual 187, 3) := by decide +kernel
theorem dX9_joined_34 : decode cX9_joined 34 = .ok (.istore 4, 2) := by decide +kernel
theorem dX9_joined_36 : decode cX9_joined 36 = .ok (.aload_n 0, 1) := by decide +kernel
theorem dX9_joined_37 : decode cX9_joined 37 = .ok (.getfield 53, 3) := by decide +kernel
theorem dX9_joined_40 : decode cX9_joined 40 = .ok (.iload_n 2, 1) := by decide +kernel
theorem dX9_joined_41 : decode cX9_joined 41 = .ok (.iaload, 1) := by decide +kernel
theorem dX9_joined_42 : decode cX9_joined 42 = .ok (.ireturn, 1) := by decide +kernel
theorem dX9_bests_0 : decode cX9_bests 0 = .ok (.aload_n 0, 1) := by decide +kernel
theorem dX9_bests_1 : decode cX9_bests 1 = .ok (.iload_n 1, 1) := by decide +kernel
theorem dX9_bests_2 : decode cX9_bests 2 = .ok (.iload_n 2, 1) := by decide +kernel
theorem dX9_bests_3 : decode cX9_bests 3 = .ok (.invokevirtual 184, 3) := by decide +kernel
theorem dX9_bests_6 : decode cX9_bests 6 = .ok (.ifCond .ne 9, 3) := by decide +kernel
theorem dX9_bests_9 : decode cX9_bests 9 = .ok (.aload_n 0, 1) := by decide +kernel
theorem dX9_bests_10 : decode cX9_bests 10 = .ok (.iconst (-1), 1) := by decide +kernel
theorem dX9_bests_11 : decode cX9_bests 11 = .ok (.invokevirtual 130, 3) := by decide +kernel
theorem dX9_bests_14 : decode cX9_bests 14 = .ok (.ireturn, 1) := by decide +kernel
theorem dX9_bests_15 : decode cX9_bests 15 = .ok (.aload_n 0, 1) := by decide +kernel
theorem dX9_bests_16 : decode cX9_bests 16 = .ok (.iload_n 1, 1) := by decide +kernel
theorem dX9_bests_17 : decode cX9_bests 17 = .ok (.iload_n 2, 1) := by decide +kernel
theorem dX9_bests_18 : decode cX9_bests 18 = .ok (.invokevirtual 187, 3) := by decide +kernel
theorem dX9_bests_21 : decode cX9_bests 21 = .ok (.istore_n 3, 1) := by decide +kernel
theorem dX9_bests_22 : decode cX9_bests 22 = .ok (.aload_n 0, 1) := by decide +kernel
theorem dX9_bests_23 : decode cX9_bests 23 = .ok (.getfield 56, 3) := by decide +kernel
theorem dX9_bests_26 : decode cX9_bests 26 = .ok (.iconst 0, 1) := by decide +kernel
theorem dX9_bests_27 : decode cX9_bests 27 = .ok (.iaload, 1) := by decide +kernel
theorem dX9_bests_28 : decode cX9_bests 28 = .ok (.ireturn, 1) := by decide +kernel
theorem dX9_isSure_0 : decode cX9_isSure 0 = .ok (.aload_n 0, 1) := by decide +kernel
theorem dX9_isSure_1 : decode cX9_isSure 1 = .ok (.iload_n 1, 1) := by decide +kernel
theorem dX9_isSure_2 : decode cX9_isSure 2 = .ok (.iload_n 3, 1) := by decide +kernel
theorem dX9_isSure_3 : decode cX9_isSure 3 = .ok (.invokevirtual 187, 3) := by decide +kernel
theorem dX9_isSure_6 : decode cX9_isSure 6 = .ok (.istore 4, 2) := by decide +kernel
theorem dX9_isSure_8 : decode cX9_isSure 8 = .ok (.aload_n 0, 1) := by decide +kernel
theorem dX9_isSure_9 : decode cX9_isSure 9 = .ok (.getfield 53, 3) := by decide +kernel
theorem dX9_isSure_12 : decode cX9_isSure 12 = .ok (.iload_n 2, 1) := by decide +kernel
theorem dX9_isSure_13 : decode cX9_isSure 13 = .ok (.iaload, 1) := by decide +kernel
theorem dX9_isSure_14 : decode cX9_isSure 14 = .ok (.istore 5, 2) := by decide +kernel
theorem dX9_isSure_16 : decode cX9_isSure 16 = .ok (.iload 5, 2) := by decide +kernel
theorem dX9_isSure_18 : decode cX9_isSure 18 = .ok (.ifCond .ge 5, 3) := by decide +kernel
theorem dX9_isSure_21 : decode cX9_isSure 21 = .ok (.iconst 0, 1) := by decide +kernel
theorem dX9_isSure_22 : decode cX9_isSure 22 = .ok (.ireturn, 1) := by decide +kernel
theorem dX9_isSure_23 : decode cX9_isSure 23 = .ok (.aload_n 0, 1) := by decide +kernel
theorem dX9_isSure_24 : decode cX9_isSure 24 = .ok (.getfield 47, 3) := by decide +kernel
theorem dX9_isSure_27 : decode cX9_isSure 27 = .ok (.bipush 10, 2) := by decide +kernel
theorem dX9_isSure_29 : decode cX9_isSure 29 = .ok (.iload_n 2, 1) := by decide +kernel
theorem dX9_isSure_30 : decode cX9_isSure 30 = .ok (.imul, 1) := by decide +kernel
theorem dX9_isSure_31 : decode cX9_isSure 31 = .ok (.iload 5, 2) := by decide +kernel
theorem dX9_isSure_33 : decode cX9_isSure 33 = .ok (.iadd, 1) := by decide +kernel
theorem dX9_isSure_34 : decode cX9_isSure 34 = .ok (.iconst 0, 1) := by decide +kernel
theorem dX9_isSure_35 : decode cX9_isSure 35 = .ok (.iastore, 1) := by decide +kernel
theorem dX9_isSure_36 : decode cX9_isSure 36 = .ok (.aload_n 0, 1) := by decide +kernel
theorem dX9_isSure_37 : decode cX9_isSure 37 = .ok (.aload_n 0, 1) := by decide +kernel
theorem dX9_isSure_38 : decode cX9_isSure 38 = .ok (.getfield 19, 3) := by decide +kernel
theorem dX9_isSure_41 : decode cX9_isSure 41 = .ok (.iload_n 1, 1) := by decide +kernel
theorem dX9_isSure_42 : decode cX9_isSure 42 = .ok (.iaload, 1) := by decide +kernel
theorem dX9_isSure_43 : decode cX9_isSure 43 = .ok (.aload_n 0, 1) := by decide +kernel
theorem dX9_isSure_44 : decode cX9_isSure 44 = .ok (.getfield 19, 3) := by decide +kernel
theorem dX9_isSure_47 : decode cX9_isSure 47 = .ok (.iload_n 3, 1) := by decide +kernel
theorem dX9_isSure_48 : decode cX9_isSure 48 = .ok (.iaload, 1) := by decide +kernel
theorem dX9_isSure_49 : decode cX9_isSure 49 = .ok (.invokevirtual 181, 3) := by decide +kernel
theorem dX9_isSure_52 : decode cX9_isSure 52 = .ok (.iload 4, 2) := by decide +kernel
theorem dX9_isSure_54 : decode cX9_isSure 54 = .ok (.if_icmp .ge 7, 3) := by decide +kernel
theorem dX9_isSure_57 : decode cX9_isSure 57 = .ok (.iconst 1, 1) := by decide +kernel
theorem dX9_isSure_58 : decode cX9_isSure 58 = .ok (.goto 4, 3) := by decide +kernel
theorem dX9_isSure_61 : decode cX9_isSure 61 = .ok (.iconst 0, 1) := by decide +kernel
theorem dX9_isSure_62 : decode cX9_isSure 62 = .ok (.ireturn, 1) := by decide +kernel
theorem dX9_sure_0 : decode cX9_sure 0 = .ok (.aload_n 0, 1) := by decide +kernel
theorem dX9_sure_1 : decode cX9_sure 1 = .ok (.iload_n 1, 1) := by decide +kernel
theorem dX9_sure_2 : decode cX9_sure 2 = .ok (.iload_n 3, 1) := by decide +kernel
theorem dX9_sure_3 : decode cX9_sure 3 = .ok (.invokevirtual 184, 3) := by decide +kernel
theorem dX9_sure_6 : decode cX9_sure 6 = .ok (.ifCond .eq 16, 3) := by decide +kernel
theorem dX9_sure_9 : decode cX9_sure 9 = .ok (.iload_n 2, 1) := by decide +kernel
theorem dX9_sure_10 : decode cX9_sure 10 = .ok (.aload_n 0, 1) := by decide +kernel
theorem dX9_sure_11 : decode cX9_sure 11 = .ok (.getfield 19, 3) := by decide +kernel
theorem dX9_sure_14 : decode cX9_sure 14 = .ok (.iload_n 1, 1) := by decide +kernel
theorem dX9_sure_15 : decode cX9_sure 15 = .ok (.iaload, 1) := by decide +kernel
theorem dX9_sure_16 : decode cX9_sure 16 = .ok (.invokestatic 126, 3) := by decide +kernel
theorem dX9_sure_19 : decode cX9_sure 19 = .ok (.ifCond .ne 9, 3) := by decide +kernel
theorem dX9_sure_22 : decode cX9_sure 22 = .ok (.aload_n 0, 1) := by decide +kernel
theorem dX9_sure_23 : decode cX9_sure 23 = .ok (.iconst (-1), 1) := by decide +kernel
theorem dX9_sure_24 : decode cX9_sure 24 = .ok (.invokevirtual 130, 3) := by decide +kernel
theorem dX9_sure_27 : decode cX9_sure 27 = .ok (.ireturn, 1) := by decide +kernel
theorem dX9_sure_28 : decode cX9_sure 28 = .ok (.aload_n 0, 1) := by decide +kernel
theorem dX9_sure_29 : decode cX9_sure 29 = .ok (.iload_n 1, 1) := by decide +kernel
theorem dX9_sure_30 : decode cX9_sure 30 = .ok (.iload_n 2, 1) := by decide +kernel
theorem dX9_sure_31 : decode cX9_sure 31 = .ok (.iload_n 3, 1) := by decide +kernel
theorem dX9_sure_32 : decode cX9_sure 32 = .ok (.invokevirtual 190, 3) := by decide +kernel
theorem dX9_sure_35 : decode cX9_sure 35 = .ok (.ifCond .eq 7, 3) := by decide +kernel
theorem dX9_sure_38 : decode cX9_sure 38 = .ok (.iconst 1, 1) := by decide +kernel
theorem dX9_sure_39 : decode cX9_sure 39 = .ok (.goto 4, 3) := by decide +kernel
theorem dX9_sure_42 : decode cX9_sure 42 = .ok (.iconst 0, 1) := by decide +kernel
theorem dX9_sure_43 : decode cX9_sure 43 = .ok (.ireturn, 1) := by decide +kernel
theorem dX9_chain_0 : decode cX9_chain 0 = .ok (.aload_n 0, 1) := by decide +kernel
theorem dX9_chain_1 : decode cX9_chain 1 = .ok (.iload_n 1, 1) := by decide +kernel
theorem dX9_chain_2 : decode cX9_chain 2 = .ok (.iload_n 2, 1) := by decide +kernel
theorem dX9_chain_3 : decode cX9_chain 3 = .ok (.invokevirtual 145, 3) := by decide +kernel
theorem dX9_chain_6 : decode cX9_chain 6 = .ok (.ifCond .eq 15, 3) := by decide +kernel
theorem dX9_chain_9 : decode cX9_chain 9 = .ok (.iload_n 3, 1) := by decide +kernel
theorem dX9_chain_10 : decode cX9_chain 10 = .ok (.iconst 1, 1) := by decide +kernel
theorem dX9_chain_11 : decode cX9_chain 11 = .ok (.if_icmp .lt 10, 3) := by decide +kernel
theorem dX9_chain_14 : decode cX9_chain 14 = .ok (.iload_n 3, 1) := by decide +kernel
theorem dX9_chain_15 : decode cX9_chain 15 = .ok (.sipush 999, 3) := by decide +kernel
theorem dX9_chain_18 : decode cX9_chain 18 = .ok (.if_icmp .le 9, 3) := by decide +kernel
theorem dX9_chain_21 : decode cX9_chain 21 = .ok (.aload_n 0, 1) := by decide +kernel
theorem dX9_chain_22 : decode cX9_chain 22 = .ok (.iconst (-1), 1) := by decide +kernel
theorem dX9_chain_23 : decode cX9_chain 23 = .ok (.invokevirtual 130, 3) := by decide +kernel
theorem dX9_chain_26 : decode cX9_chain 26 = .ok (.ireturn, 1) := by decide +kernel
theorem dX9_chain_27 : decode cX9_chain 27 = .ok (.iconst 1, 1) := by decide +kernel
theorem dX9_chain_28 : decode cX9_chain 28 = .ok (.iload_n 1, 1) := by decide +kernel
theorem dX9_chain_29 : decode cX9_chain 29 = .ok (.ishl, 1) := by decide +kernel
theorem dX9_chain_30 : decode cX9_chain 30 = .ok (.istore 5, 2) := by decide +kernel
theorem dX9_chain_32 : decode cX9_chain 32 = .ok (.iload_n 3, 1) := by decide +kernel
theorem dX9_chain_33 : decode cX9_chain 33 = .ok (.bipush 99, 2) := by decide +kernel
theorem dX9_chain_35 : decode cX9_chain 35 = .ok (.if_icmp .le 7, 3) := by decide +kernel
theorem dX9_chain_38 : decode cX9_chain 38 = .ok (.iconst 3, 1) := by decide +kernel
theorem dX9_chain_39 : decode cX9_chain 39 = .ok (.goto 14, 3) := by decide +kernel
theorem dX9_chain_42 : decode cX9_chain 42 = .ok (.iload_n 3, 1) := by decide +kernel
theorem dX9_chain_43 : decode cX9_chain 43 = .ok (.bipush 9, 2) := by decide +kernel
theorem dX9_chain_45 : decode cX9_chain 45 = .ok (.if_icmp .le 7, 3) := by decide +kernel
theorem dX9_chain_48 : decode cX9_chain 48 = .ok (.iconst 2, 1) := by decide +kernel
theorem dX9_chain_49 : decode cX9_chain 49 = .ok (.goto 4, 3) := by decide +kernel
theorem dX9_chain_52 : decode cX9_chain 52 = .ok (.iconst 1, 1) := by decide +kernel
theorem dX9_chain_53 : decode cX9_chain 53 = .ok (.istore 6, 2) := by decide +kernel
theorem dX9_chain_55 : decode cX9_chain 55 = .ok (.iload_n 3, 1) := by decide +kernel
theorem dX9_chain_56 : decode cX9_chain 56 = .ok (.istore 7, 2) := by decide +kernel
theorem dX9_chain_58 : decode cX9_chain 58 = .ok (.iload 7, 2) := by decide +kernel
theorem dX9_chain_60 : decode cX9_chain 60 = .ok (.ifCond .le 57, 3) := by decide +kernel
theorem dX9_chain_63 : decode cX9_chain 63 = .ok (.iload 7, 2) := by decide +kernel
theorem dX9_chain_65 : decode cX9_chain 65 = .ok (.bipush 10, 2) := by decide +kernel
theorem dX9_chain_67 : decode cX9_chain 67 = .ok (.irem, 1) := by decide +kernel
theorem dX9_chain_68 : decode cX9_chain 68 = .ok (.iconst 1, 1) := by decide +kernel
theorem dX9_chain_69 : decode cX9_chain 69 = .ok (.isub, 1) := by decide +kernel
theorem dX9_chain_70 : decode cX9_chain 70 = .ok (.istore 8, 2) := by decide +kernel
theorem dX9_chain_72 : decode cX9_chain 72 = .ok (.iload 8, 2) := by decide +kernel
theorem dX9_chain_74 : decode cX9_chain 74 = .ok (.iconst 4, 1) := by decide +kernel
theorem dX9_chain_75 : decode cX9_chain 75 = .ok (.invokestatic 126, 3) := by decide +kernel
theorem dX9_chain_78 : decode cX9_chain 78 = .ok (.ifCond .eq 14, 3) := by decide +kernel
theorem dX9_chain_81 : decode cX9_chain 81 = .ok (.iload 5, 2) := by decide +kernel
theorem dX9_chain_83 : decode cX9_chain 83 = .ok (.iload 8, 2) := by decide +kernel
theorem dX9_chain_85 : decode cX9_chain 85 = .ok (.ishr, 1) := by decide +kernel
theorem dX9_chain_86 : decode cX9_chain 86 = .ok (.iconst 1, 1) := by decide +kernel
theorem dX9_chain_87 : decode cX9_chain 87 = .ok (.iand, 1) := by decide +kernel
theorem dX9_chain_88 : decode cX9_chain 88 = .ok (.iconst 1, 1) := by decide +kernel
theorem dX9_chain_89 : decode cX9_chain 89 = .ok (.if_icmp .ne 9, 3) := by decide +kernel
theorem dX9_chain_92 : decode cX9_chain 92 = .ok (.aload_n 0, 1) := by decide +kernel
theorem dX9_chain_93 : decode cX9_chain 93 = .ok (.iconst (-1), 1) := by decide +kernel
theorem dX9_chain_94 : decode cX9_chain 94 = .ok (.invokevirtual 130, 3) := by decide +kernel
theorem dX9_chain_97 : decode cX9_chain 97 = .ok (.ireturn, 1) := by decide +kernel
theorem dX9_chain_98 : decode cX9_chain 98 = .ok (.iload 5, 2) := by decide +kernel
theorem dX9_chain_100 : decode cX9_chain 100 = .ok (.iconst 1, 1) := by decide +kernel
theorem dX9_chain_101 : decode cX9_chain 101 = .ok (.iload 8, 2) := by decide +kernel
theorem dX9_chain_103 : decode cX9_chain 103 = .ok (.ishl, 1) := by decide +kernel
theorem dX9_chain_104 : decode cX9_chain 104 = .ok (.ior, 1) := by decide +kernel
theorem dX9_chain_105 : decode cX9_chain 105 = .ok (.istore 5, 2) := by decide +kernel
theorem dX9_chain_107 : decode cX9_chain 107 = .ok (.iload 7, 2) := by decide +kernel
theorem dX9_chain_109 : decode cX9_chain 109 = .ok (.bipush 10, 2) := by decide +kernel
theorem dX9_chain_111 : decode cX9_chain 111 = .ok (.idiv, 1) := by decide +kernel
theorem dX9_chain_112 : decode cX9_chain 112 = .ok (.istore 7, 2) := by decide +kernel
theorem dX9_chain_114 : decode cX9_chain 114 = .ok (.goto (-56), 3) := by decide +kernel
theorem dX9_chain_117 : decode cX9_chain 117 = .ok (.iload 4, 2) := by decide +kernel
theorem dX9_chain_119 : decode cX9_chain 119 = .ok (.iconst 3, 1) := by decide +kernel
theorem dX9_chain_120 : decode cX9_chain 120 = .ok (.invokestatic 126, 3) := by decide +kernel
theorem dX9_chain_123 : decode cX9_chain 123 = .ok (.ifCond .ne 10, 3) := by decide +kernel
theorem dX9_chain_126 : decode cX9_chain 126 = .ok (.aload_n 0, 1) := by decide +kernel
theorem dX9_chain_127 : decode cX9_chain 127 = .ok (.bipush (-2), 2) := by decide +kernel
theorem dX9_chain_129 : decode cX9_chain 129 = .ok (.invokevirtual 130, 3) := by decide +kernel
theorem dX9_chain_132 : decode cX9_chain 132 = .ok (.ireturn, 1) := by decide +kernel
theorem dX9_chain_133 : decode cX9_chain 133 = .ok (.iconst 0, 1) := by decide +kernel
theorem dX9_chain_134 : decode cX9_chain 134 = .ok (.istore 7, 2) := by decide +kernel
theorem dX9_chain_136 : decode cX9_chain 136 = .ok (.iconst 0, 1) := by decide +kernel
theorem dX9_chain_137 : decode cX9_chain 137 = .ok (.istore 8, 2) := by decide +kernel
theorem dX9_chain_139 : decode cX9_chain 139 = .ok (.iload_n 1, 1) := by decide +kernel
theorem dX9_chain_140 : decode cX9_chain 140 = .ok (.istore 9, 2) := by decide +kernel
theorem dX9_chain_142 : decode cX9_chain 142 = .ok (.iload_n 2, 1) := by decide +kernel
theorem dX9_chain_143 : decode cX9_chain 143 = .ok (.istore 10, 2) := by decide +kernel
theorem dX9_chain_145 : decode cX9_chain 145 = .ok (.iload 6, 2) := by decide +kernel
theorem dX9_chain_147 : decode cX9_chain 147 = .ok (.iconst 3, 1) := by decide +kernel
theorem dX9_chain_148 : decode cX9_chain 148 = .ok (.if_icmp .ne 8, 3) := by decide +kernel
theorem dX9_chain_151 : decode cX9_chain 151 = .ok (.bipush 100, 2) := by decide +kernel
theorem dX9_chain_153 : decode cX9_chain 153 = .ok (.goto 15, 3) := by decide +kernel
theorem dX9_chain_156 : decode cX9_chain 156 = .ok (.iload 6, 2) := by decide +kernel
theorem dX9_chain_158 : decode cX9_chain 158 = .ok (.iconst 2, 1) := by decide +kernel
theorem dX9_chain_159 : decode cX9_chain 159 = .ok (.if_icmp .ne 8, 3) := by decide +kernel
theorem dX9_chain_162 : decode cX9_chain 162 = .ok (.bipush 10, 2) := by decide +kernel
theorem dX9_chain_164 : decode cX9_chain 164 = .ok (.goto 4, 3) := by decide +kernel
theorem dX9_chain_167 : decode cX9_chain 167 = .ok (.iconst 1, 1) := by decide +kernel
theorem dX9_chain_168 : decode cX9_chain 168 = .ok (.istore 11, 2) := by decide +kernel
theorem dX9_chain_170 : decode cX9_chain 170 = .ok (.iload 11, 2) := by decide +kernel
theorem dX9_chain_172 : decode cX9_chain 172 = .ok (.ifCond .le 102, 3) := by decide +kernel
theorem dX9_chain_175 : decode cX9_chain 175 = .ok (.iload 10, 2) := by decide +kernel
theorem dX9_chain_177 : decode cX9_chain 177 = .ok (.ifCond .lt 97, 3) := by decide +kernel
theorem dX9_chain_180 : decode cX9_chain 180 = .ok (.iload_n 3, 1) := by decide +kernel
theorem dX9_chain_181 : decode cX9_chain 181 = .ok (.iload 11, 2) := by decide +kernel
theorem dX9_chain_183 : decode cX9_chain 183 = .ok (.idiv, 1) := by decide +kernel
theorem dX9_chain_184 : decode cX9_chain 184 = .ok (.bipush 10, 2) := by decide +kernel
theorem dX9_chain_186 : decode cX9_chain 186 = .ok (.irem, 1) := by decide +kernel
theorem dX9_chain_187 : decode cX9_chain 187 = .ok (.iconst 1, 1) := by decide +kernel
theorem dX9_chain_188 : decode cX9_chain 188 = .ok (.isub, 1) := by decide +kernel
theorem dX9_chain_189 : decode cX9_chain 189 = .ok (.istore 12, 2) := by decide +kernel
theorem dX9_chain_191 : decode cX9_chain 191 = .ok (.aload_n 0, 1) := by decide +kernel
theorem dX9_chain_192 : decode cX9_chain 192 = .ok (.iload 9, 2) := by decide +kernel
theorem dX9_chain_194 : decode cX9_chain 194 = .ok (.iload 10, 2) := by decide +kernel
theorem dX9_chain_196 : decode cX9_chain 196 = .ok (.iload 12, 2) := by decide +kernel
theorem dX9_chain_198 : decode cX9_chain 198 = .ok (.invokevirtual 190, 3) := by decide +kernel
theorem dX9_chain_201 : decode cX9_chain 201 = .ok (.istore 13, 2) := by decide +kernel
theorem dX9_chain_203 : decode cX9_chain 203 = .ok (.aload_n 0, 1) := by decide +kernel
theorem dX9_chain_204 : decode cX9_chain 204 = .ok (.getfield 53, 3) := by decide +kernel
theorem dX9_chain_207 : decode cX9_chain 207 = .ok (.iload 10, 2) := by decide +kernel
theorem dX9_chain_209 : decode cX9_chain 209 = .ok (.iaload, 1) := by decide +kernel
theorem dX9_chain_210 : decode cX9_chain 210 = .ok (.istore 14, 2) := by decide +kernel
theorem dX9_chain_212 : decode cX9_chain 212 = .ok (.iload 14, 2) := by decide +kernel
theorem dX9_chain_214 : decode cX9_chain 214 = .ok (.ifCond .lt 42, 3) := by decide +kernel
theorem dX9_chain_217 : decode cX9_chain 217 = .ok (.iinc 7 1, 3) := by decide +kernel
theorem dX9_chain_220 : decode cX9_chain 220 = .ok (.iload 8, 2) := by decide +kernel
theorem dX9_chain_222 : decode cX9_chain 222 = .ok (.iconst 0, 1) := by decide +kernel
theorem dX9_chain_223 : decode cX9_chain 223 = .ok (.bipush 100, 2) := by decide +kernel
theorem dX9_chain_225 : decode cX9_chain 225 = .ok (.aload_n 0, 1) := by decide +kernel
theorem dX9_chain_226 : decode cX9_chain 226 = .ok (.iload 9, 2) := by decide +kernel
theorem dX9_chain_228 : decode cX9_chain 228 = .ok (.iload 10, 2) := by decide +kernel
theorem dX9_chain_230 : decode cX9_chain 230 = .ok (.iload 12, 2) := by decide +kernel
theorem dX9_chain_232 : decode cX9_chain 232 = .ok (.iload 14, 2) := by decide +kernel
theorem dX9_chain_234 : decode cX9_chain 234 = .ok (.invokevirtual 166, 3) := by decide +kernel
theorem dX9_chain_237 : decode cX9_chain 237 = .ok (.isub, 1) := by decide +kernel
theorem dX9_chain_238 : decode cX9_chain 238 = .ok (.invokestatic 162, 3) := by decide +kernel
theorem dX9_chain_241 : decode cX9_chain 241 = .ok (.iload 13, 2) := by decide +kernel
theorem dX9_chain_243 : decode cX9_chain 243 = .ok (.ifCond .eq 7, 3) := by decide +kernel
theorem dX9_chain_246 : decode cX9_chain 246 = .ok (.iconst 0, 1) := by decide +kernel
theorem dX9_chain_247 : decode cX9_chain 247 = .ok (.goto 5, 3) := by decide +kernel
theorem dX9_chain_250 : decode cX9_chain 250 = .ok (.bipush 50, 2) := by decide +kernel
theorem dX9_chain_252 : decode cX9_chain 252 = .ok (.iadd, 1) := by decide +kernel
theorem dX9_chain_253 : decode cX9_chain 253 = .ok (.iadd, 1) := by decide +kernel
theorem dX9_chain_254 : decode cX9_chain 254 = .ok (.istore 8, 2) := by decide +kernel
theorem dX9_chain_256 : decode cX9_chain 256 = .ok (.iload 14, 2) := by decide +kernel
theorem dX9_chain_258 : decode cX9_chain 258 = .ok (.istore 10, 2) := by decide +kernel
theorem dX9_chain_260 : decode cX9_chain 260 = .ok (.iload 12, 2) := by decide +kernel
theorem dX9_chain_262 : decode cX9_chain 262 = .ok (.istore 9, 2) := by decide +kernel
theorem dX9_chain_264 : decode cX9_chain 264 = .ok (.iload 11, 2) := by decide +kernel
theorem dX9_chain_266 : decode cX9_chain 266 = .ok (.bipush 10, 2) := by decide +kernel
theorem dX9_chain_268 : decode cX9_chain 268 = .ok (.idiv, 1) := by decide +kernel
theorem dX9_chain_269 : decode cX9_chain 269 = .ok (.istore 11, 2) := by decide +kernel
theorem dX9_chain_271 : decode cX9_chain 271 = .ok (.goto (-101), 3) := by decide +kernel
theorem dX9_chain_274 : decode cX9_chain 274 = .ok (.iload 4, 2) := by decide +kernel
theorem dX9_chain_276 : decode cX9_chain 276 = .ok (.ifCond .ne 8, 3) := by decide +kernel
theorem dX9_chain_279 : decode cX9_chain 279 = .ok (.iload 10, 2) := by decide +kernel
theorem dX9_chain_281 : decode cX9_chain 281 = .ok (.goto 16, 3) := by decide +kernel
theorem dX9_chain_284 : decode cX9_chain 284 = .ok (.iload 4, 2) := by decide +kernel
theorem dX9_chain_286 : decode cX9_chain 286 = .ok (.iconst 1, 1) := by decide +kernel
theorem dX9_chain_287 : decode cX9_chain 287 = .ok (.if_icmp .ne 8, 3) := by decide +kernel
theorem dX9_chain_290 : decode cX9_chain 290 = .ok (.iload 7, 2) := by decide +kernel
theorem dX9_chain_292 : decode cX9_chain 292 = .ok (.goto 5, 3) := by decide +kernel
theorem dX9_chain_295 : decode cX9_chain 295 = .ok (.iload 8, 2) := by decide +kernel
theorem dX9_chain_297 : decode cX9_chain 297 = .ok (.ireturn, 1) := by decide +kernel
theorem dX9_copied_0 : decode cX9_copied 0 = .ok (.aload_n 0, 1) := by decide +kernel
theorem dX9_copied_1 : decode cX9_copied 1 = .ok (.iload_n 1, 1) := by decide +kernel
theorem dX9_copied_2 : decode cX9_copied 2 = .ok (.iload_n 2, 1) := by decide +kernel
theorem dX9_copied_3 : decode cX9_copied 3 = .ok (.invokevirtual 184, 3) := by decide +kernel
theorem dX9_copied_6 : decode cX9_copied 6 = .ok (.ifCond .eq 16, 3) := by decide +kernel
theorem dX9_copied_9 : decode cX9_copied 9 = .ok (.iload_n 3, 1) := by decide +kernel
theorem dX9_copied_10 : decode cX9_copied 10 = .ok (.aload_n 0, 1) := by decide +kernel
theorem dX9_copied_11 : decode cX9_copied 11 = .ok (.getfield 19, 3) := by decide +kernel
theorem dX9_copied_14 : decode cX9_copied 14 = .ok (.iload_n 2, 1) := by decide +kernel
theorem dX9_copied_15 : decode cX9_copied 15 = .ok (.iaload, 1) := by decide +kernel
theorem dX9_copied_16 : decode cX9_copied 16 = .ok (.invokestatic 126, 3) := by decide +kernel
theorem dX9_copied_19 : decode cX9_copied 19 = .ok (.ifCond .ne 9, 3) := by decide +kernel
theorem dX9_copied_22 : decode cX9_copied 22 = .ok (.aload_n 0, 1) := by decide +kernel
theorem dX9_copied_23 : decode cX9_copied 23 = .ok (.iconst (-1), 1) := by decide +kernel
theorem dX9_copied_24 : decode cX9_copied 24 = .ok (.invokevirtual 130, 3) := by decide +kernel
theorem dX9_copied_27 : decode cX9_copied 27 = .ok (.ireturn, 1) := by decide +kernel
theorem dX9_copied_28 : decode cX9_copied 28 = .ok (.aload_n 0, 1) := by decide +kernel
theorem dX9_copied_29 : decode cX9_copied 29 = .ok (.getfield 16, 3) := by decide +kernel
theorem dX9_copied_32 : decode cX9_copied 32 = .ok (.iload_n 2, 1) := by decide +kernel
theorem dX9_copied_33 : decode cX9_copied 33 = .ok (.iaload, 1) := by decide +kernel
theorem dX9_copied_34 : decode cX9_copied 34 = .ok (.aload_n 0, 1) := by decide +kernel
theorem dX9_copied_35 : decode cX9_copied 35 = .ok (.getfield 16, 3) := by decide +kernel
theorem dX9_copied_38 : decode cX9_copied 38 = .ok (.iload_n 1, 1) := by decide +kernel
theorem dX9_copied_39 : decode cX9_copied 39 = .ok (.iaload, 1) := by decide +kernel
theorem dX9_copied_40 : decode cX9_copied 40 = .ok (.if_icmp .gt 10, 3) := by decide +kernel
theorem dX9_copied_43 : decode cX9_copied 43 = .ok (.aload_n 0, 1) := by decide +kernel
theorem dX9_copied_44 : decode cX9_copied 44 = .ok (.bipush (-3), 2) := by decide +kernel
theorem dX9_copied_46 : decode cX9_copied 46 = .ok (.invokevirtual 130, 3) := by decide +kernel
theorem dX9_copied_49 : decode cX9_copied 49 = .ok (.ireturn, 1) := by decide +kernel
theorem dX9_copied_50 : decode cX9_copied 50 = .ok (.aload_n 0, 1) := by decide +kernel
theorem dX9_copied_51 : decode cX9_copied 51 = .ok (.iload_n 1, 1) := by decide +kernel
theorem dX9_copied_52 : decode cX9_copied 52 = .ok (.iload_n 2, 1) := by decide +kernel
theorem dX9_copied_53 : decode cX9_copied 53 = .ok (.invokevirtual 187, 3) := by decide +kernel
theorem dX9_copied_56 : decode cX9_copied 56 = .ok (.istore 4, 2) := by decide +kernel
theorem dX9_copied_58 : decode cX9_copied 58 = .ok (.iconst 0, 1) := by decide +kernel
theorem dX9_copied_59 : decode cX9_copied 59 = .ok (.istore 5, 2) := by decide +kernel
theorem dX9_copied_61 : decode cX9_copied 61 = .ok (.iload 5, 2) := by decide +kernel
theorem dX9_copied_63 : decode cX9_copied 63 = .ok (.aload_n 0, 1) := by decide +kernel
theorem dX9_copied_64 : decode cX9_copied 64 = .ok (.getfield 19, 3) := by decide +kernel
theorem dX9_copied_67 : decode cX9_copied 67 = .ok (.iload_n 1, 1) := by decide +kernel
theorem dX9_copied_68 : decode cX9_copied 68 = .ok (.iaload, 1) := by decide +kernel
theorem dX9_copied_69 : decode cX9_copied 69 = .ok (.if_icmp .ge 75, 3) := by decide +kernel
theorem dX9_copied_72 : decode cX9_copied 72 = .ok (.aload_n 0, 1) := by decide +kernel
theorem dX9_copied_73 : decode cX9_copied 73 = .ok (.getfield 22, 3) := by decide +kernel
theorem dX9_copied_76 : decode cX9_copied 76 = .ok (.bipush 10, 2) := by decide +kernel
theorem dX9_copied_78 : decode cX9_copied 78 = .ok (.iload_n 1, 1) := by decide +kernel
theorem dX9_copied_79 : decode cX9_copied 79 = .ok (.imul, 1) := by decide +kernel
theorem dX9_copied_80 : decode cX9_copied 80 = .ok (.iload 5, 2) := by decide +kernel
theorem dX9_copied_82 : decode cX9_copied 82 = .ok (.iadd, 1) := by decide +kernel
theorem dX9_copied_83 : decode cX9_copied 83 = .ok (.iaload, 1) := by decide +kernel
theorem dX9_copied_84 : decode cX9_copied 84 = .ok (.aload_n 0, 1) := by decide +kernel
theorem dX9_copied_85 : decode cX9_copied 85 = .ok (.getfield 22, 3) := by decide +kernel
theorem dX9_copied_88 : decode cX9_copied 88 = .ok (.bipush 10, 2) := by decide +kernel
theorem dX9_copied_90 : decode cX9_copied 90 = .ok (.iload_n 2, 1) := by decide +kernel
theorem dX9_copied_91 : decode cX9_copied 91 = .ok (.imul, 1) := by decide +kernel
theorem dX9_copied_92 : decode cX9_copied 92 = .ok (.iload_n 3, 1) := by decide +kernel
theorem dX9_copied_93 : decode cX9_copied 93 = .ok (.iadd, 1) := by decide +kernel
theorem dX9_copied_94 : decode cX9_copied 94 = .ok (.iaload, 1) := by decide +kernel
theorem dX9_copied_95 : decode cX9_copied 95 = .ok (.if_icmp .ne 43, 3) := by decide +kernel
theorem dX9_copied_98 : decode cX9_copied 98 = .ok (.aload_n 0, 1) := by decide +kernel
theorem dX9_copied_99 : decode cX9_copied 99 = .ok (.getfield 25, 3) := by decide +kernel
theorem dX9_copied_102 : decode cX9_copied 102 = .ok (.bipush 10, 2) := by decide +kernel
theorem dX9_copied_104 : decode cX9_copied 104 = .ok (.iload_n 1, 1) := by decide +kernel
theorem dX9_copied_105 : decode cX9_copied 105 = .ok (.imul, 1) := by decide +kernel
theorem dX9_copied_106 : decode cX9_copied 106 = .ok (.iload 5, 2) := by decide +kernel
theorem dX9_copied_108 : decode cX9_copied 108 = .ok (.iadd, 1) := by decide +kernel
theorem dX9_copied_109 : decode cX9_copied 109 = .ok (.iaload, 1) := by decide +kernel
theorem dX9_copied_110 : decode cX9_copied 110 = .ok (.aload_n 0, 1) := by decide +kernel
theorem dX9_copied_111 : decode cX9_copied 111 = .ok (.getfield 25, 3) := by decide +kernel
theorem dX9_copied_114 : decode cX9_copied 114 = .ok (.bipush 10, 2) := by decide +kernel
theorem dX9_copied_116 : decode cX9_copied 116 = .ok (.iload_n 2, 1) := by decide +kernel
theorem dX9_copied_117 : decode cX9_copied 117 = .ok (.imul, 1) := by decide +kernel
theorem dX9_copied_118 : decode cX9_copied 118 = .ok (.iload_n 3, 1) := by decide +kernel
theorem dX9_copied_119 : decode cX9_copied 119 = .ok (.iadd, 1) := by decide +kernel
theorem dX9_copied_120 : decode cX9_copied 120 = .ok (.iaload, 1) := by decide +kernel
theorem dX9_copied_121 : decode cX9_copied 121 = .ok (.if_icmp .ne 17, 3) := by decide +kernel
theorem dX9_copied_124 : decode cX9_copied 124 = .ok (.aload_n 0, 1) := by decide +kernel
theorem dX9_copied_125 : decode cX9_copied 125 = .ok (.getfield 53, 3) := by decide +kernel
theorem dX9_copied_128 : decode cX9_copied 128 = .ok (.iload 5, 2) := by decide +kernel
theorem dX9_copied_130 : decode cX9_copied 130 = .ok (.iaload, 1) := by decide +kernel
theorem dX9_copied_131 : decode cX9_copied 131 = .ok (.iload_n 3, 1) := by decide +kernel
theorem dX9_copied_132 : decode cX9_copied 132 = .ok (.if_icmp .eq 6, 3) := by decide +kernel
theorem dX9_copied_135 : decode cX9_copied 135 = .ok (.iload 5, 2) := by decide +kernel
theorem dX9_copied_137 : decode cX9_copied 137 = .ok (.ireturn, 1) := by decide +kernel
theorem dX9_copied_138 : decode cX9_copied 138 = .ok (.iinc 5 1, 3) := by decide +kernel
theorem dX9_copied_141 : decode cX9_copied 141 = .ok (.goto (-80), 3) := by decide +kernel
theorem dX9_copied_144 : decode cX9_copied 144 = .ok (.bipush (-9), 2) := by decide +kernel
