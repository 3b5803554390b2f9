theorem dX0_init_0 : decode cX0_init 0 = .ok (.aload_n 0, 1) := by decide +kernel
theorem dX0_init_1 : decode cX0_init 1 = .ok (.invokespecial 3, 3) := by decide +kernel
theorem dX0_init_4 : decode cX0_init 4 = .ok (.aload_n 0, 1) := by decide +kernel
theorem dX0_init_5 : decode cX0_init 5 = .ok (.bipush 10, 2) := by decide +kernel
theorem dX0_init_7 : decode cX0_init 7 = .ok (.newarray .int, 2) := by decide +kernel
theorem dX0_init_9 : decode cX0_init 9 = .ok (.putfield 9, 3) := by decide +kernel
theorem dX0_init_12 : decode cX0_init 12 = .ok (.aload_n 0, 1) := by decide +kernel
theorem dX0_init_13 : decode cX0_init 13 = .ok (.bipush 6, 2) := by decide +kernel
theorem dX0_init_15 : decode cX0_init 15 = .ok (.newarray .int, 2) := by decide +kernel
theorem dX0_init_17 : decode cX0_init 17 = .ok (.putfield 15, 3) := by decide +kernel
theorem dX0_init_20 : decode cX0_init 20 = .ok (.aload_n 0, 1) := by decide +kernel
theorem dX0_init_21 : decode cX0_init 21 = .ok (.iconst 0, 1) := by decide +kernel
theorem dX0_init_22 : decode cX0_init 22 = .ok (.putfield 18, 3) := by decide +kernel
theorem dX0_init_25 : decode cX0_init 25 = .ok (.return_, 1) := by decide +kernel
theorem dX0_tellKind_0 : decode cX0_tellKind 0 = .ok (.aload_n 0, 1) := by decide +kernel
theorem dX0_tellKind_1 : decode cX0_tellKind 1 = .ok (.getfield 9, 3) := by decide +kernel
theorem dX0_tellKind_4 : decode cX0_tellKind 4 = .ok (.iload_n 1, 1) := by decide +kernel
theorem dX0_tellKind_5 : decode cX0_tellKind 5 = .ok (.iaload, 1) := by decide +kernel
theorem dX0_tellKind_6 : decode cX0_tellKind 6 = .ok (.istore_n 3, 1) := by decide +kernel
theorem dX0_tellKind_7 : decode cX0_tellKind 7 = .ok (.aload_n 0, 1) := by decide +kernel
theorem dX0_tellKind_8 : decode cX0_tellKind 8 = .ok (.getfield 9, 3) := by decide +kernel
theorem dX0_tellKind_11 : decode cX0_tellKind 11 = .ok (.iload_n 1, 1) := by decide +kernel
theorem dX0_tellKind_12 : decode cX0_tellKind 12 = .ok (.iload_n 2, 1) := by decide +kernel
theorem dX0_tellKind_13 : decode cX0_tellKind 13 = .ok (.iastore, 1) := by decide +kernel
theorem dX0_tellKind_14 : decode cX0_tellKind 14 = .ok (.iload_n 3, 1) := by decide +kernel
theorem dX0_tellKind_15 : decode cX0_tellKind 15 = .ok (.ireturn, 1) := by decide +kernel
theorem dX0_tellClash_0 : decode cX0_tellClash 0 = .ok (.aload_n 0, 1) := by decide +kernel
theorem dX0_tellClash_1 : decode cX0_tellClash 1 = .ok (.getfield 15, 3) := by decide +kernel
theorem dX0_tellClash_4 : decode cX0_tellClash 4 = .ok (.iload_n 1, 1) := by decide +kernel
theorem dX0_tellClash_5 : decode cX0_tellClash 5 = .ok (.iaload, 1) := by decide +kernel
theorem dX0_tellClash_6 : decode cX0_tellClash 6 = .ok (.iload_n 2, 1) := by decide +kernel
theorem dX0_tellClash_7 : decode cX0_tellClash 7 = .ok (.ishr, 1) := by decide +kernel
theorem dX0_tellClash_8 : decode cX0_tellClash 8 = .ok (.iconst 1, 1) := by decide +kernel
theorem dX0_tellClash_9 : decode cX0_tellClash 9 = .ok (.iand, 1) := by decide +kernel
theorem dX0_tellClash_10 : decode cX0_tellClash 10 = .ok (.ifCond .eq 7, 3) := by decide +kernel
theorem dX0_tellClash_13 : decode cX0_tellClash 13 = .ok (.iconst 1, 1) := by decide +kernel
theorem dX0_tellClash_14 : decode cX0_tellClash 14 = .ok (.goto 4, 3) := by decide +kernel
theorem dX0_tellClash_17 : decode cX0_tellClash 17 = .ok (.iconst 0, 1) := by decide +kernel
theorem dX0_tellClash_18 : decode cX0_tellClash 18 = .ok (.istore 4, 2) := by decide +kernel
theorem dX0_tellClash_20 : decode cX0_tellClash 20 = .ok (.iload 4, 2) := by decide +kernel
theorem dX0_tellClash_22 : decode cX0_tellClash 22 = .ok (.iload_n 3, 1) := by decide +kernel
theorem dX0_tellClash_23 : decode cX0_tellClash 23 = .ok (.if_icmp .ne 5, 3) := by decide +kernel
theorem dX0_tellClash_26 : decode cX0_tellClash 26 = .ok (.iconst 0, 1) := by decide +kernel
theorem dX0_tellClash_27 : decode cX0_tellClash 27 = .ok (.ireturn, 1) := by decide +kernel
theorem dX0_tellClash_28 : decode cX0_tellClash 28 = .ok (.aload_n 0, 1) := by decide +kernel
theorem dX0_tellClash_29 : decode cX0_tellClash 29 = .ok (.getfield 15, 3) := by decide +kernel
theorem dX0_tellClash_32 : decode cX0_tellClash 32 = .ok (.iload_n 1, 1) := by decide +kernel
theorem dX0_tellClash_33 : decode cX0_tellClash 33 = .ok (.dup2, 1) := by decide +kernel
theorem dX0_tellClash_34 : decode cX0_tellClash 34 = .ok (.iaload, 1) := by decide +kernel
theorem dX0_tellClash_35 : decode cX0_tellClash 35 = .ok (.iconst 1, 1) := by decide +kernel
theorem dX0_tellClash_36 : decode cX0_tellClash 36 = .ok (.iload_n 2, 1) := by decide +kernel
theorem dX0_tellClash_37 : decode cX0_tellClash 37 = .ok (.ishl, 1) := by decide +kernel
theorem dX0_tellClash_38 : decode cX0_tellClash 38 = .ok (.ixor, 1) := by decide +kernel
theorem dX0_tellClash_39 : decode cX0_tellClash 39 = .ok (.iastore, 1) := by decide +kernel
theorem dX0_tellClash_40 : decode cX0_tellClash 40 = .ok (.aload_n 0, 1) := by decide +kernel
theorem dX0_tellClash_41 : decode cX0_tellClash 41 = .ok (.getfield 15, 3) := by decide +kernel
theorem dX0_tellClash_44 : decode cX0_tellClash 44 = .ok (.iload_n 2, 1) := by decide +kernel
theorem dX0_tellClash_45 : decode cX0_tellClash 45 = .ok (.dup2, 1) := by decide +kernel
theorem dX0_tellClash_46 : decode cX0_tellClash 46 = .ok (.iaload, 1) := by decide +kernel
theorem dX0_tellClash_47 : decode cX0_tellClash 47 = .ok (.iconst 1, 1) := by decide +kernel
theorem dX0_tellClash_48 : decode cX0_tellClash 48 = .ok (.iload_n 1, 1) := by decide +kernel
theorem dX0_tellClash_49 : decode cX0_tellClash 49 = .ok (.ishl, 1) := by decide +kernel
theorem dX0_tellClash_50 : decode cX0_tellClash 50 = .ok (.ixor, 1) := by decide +kernel
theorem dX0_tellClash_51 : decode cX0_tellClash 51 = .ok (.iastore, 1) := by decide +kernel
theorem dX0_tellClash_52 : decode cX0_tellClash 52 = .ok (.aload_n 0, 1) := by decide +kernel
theorem dX0_tellClash_53 : decode cX0_tellClash 53 = .ok (.dup, 1) := by decide +kernel
theorem dX0_tellClash_54 : decode cX0_tellClash 54 = .ok (.getfield 18, 3) := by decide +kernel
theorem dX0_tellClash_57 : decode cX0_tellClash 57 = .ok (.iload_n 3, 1) := by decide +kernel
theorem dX0_tellClash_58 : decode cX0_tellClash 58 = .ok (.ifCond .eq 7, 3) := by decide +kernel
theorem dX0_tellClash_61 : decode cX0_tellClash 61 = .ok (.iconst 1, 1) := by decide +kernel
theorem dX0_tellClash_62 : decode cX0_tellClash 62 = .ok (.goto 4, 3) := by decide +kernel
theorem dX0_tellClash_65 : decode cX0_tellClash 65 = .ok (.iconst (-1), 1) := by decide +kernel
theorem dX0_tellClash_66 : decode cX0_tellClash 66 = .ok (.iadd, 1) := by decide +kernel
theorem dX0_tellClash_67 : decode cX0_tellClash 67 = .ok (.putfield 18, 3) := by decide +kernel
theorem dX0_tellClash_70 : decode cX0_tellClash 70 = .ok (.iconst 1, 1) := by decide +kernel
theorem dX0_tellClash_71 : decode cX0_tellClash 71 = .ok (.ireturn, 1) := by decide +kernel
theorem dX0_isFake_0 : decode cX0_isFake 0 = .ok (.iconst 0, 1) := by decide +kernel
theorem dX0_isFake_1 : decode cX0_isFake 1 = .ok (.istore_n 2, 1) := by decide +kernel
theorem dX0_isFake_2 : decode cX0_isFake 2 = .ok (.iconst 0, 1) := by decide +kernel
theorem dX0_isFake_3 : decode cX0_isFake 3 = .ok (.istore_n 3, 1) := by decide +kernel
theorem dX0_isFake_4 : decode cX0_isFake 4 = .ok (.iconst 0, 1) := by decide +kernel
theorem dX0_isFake_5 : decode cX0_isFake 5 = .ok (.istore 4, 2) := by decide +kernel
theorem dX0_isFake_7 : decode cX0_isFake 7 = .ok (.iload 4, 2) := by decide +kernel
theorem dX0_isFake_9 : decode cX0_isFake 9 = .ok (.bipush 10, 2) := by decide +kernel
theorem dX0_isFake_11 : decode cX0_isFake 11 = .ok (.if_icmp .ge 45, 3) := by decide +kernel
theorem dX0_isFake_14 : decode cX0_isFake 14 = .ok (.iload_n 1, 1) := by decide +kernel
theorem dX0_isFake_15 : decode cX0_isFake 15 = .ok (.iload 4, 2) := by decide +kernel
theorem dX0_isFake_17 : decode cX0_isFake 17 = .ok (.ishr, 1) := by decide +kernel
theorem dX0_isFake_18 : decode cX0_isFake 18 = .ok (.iconst 1, 1) := by decide +kernel
theorem dX0_isFake_19 : decode cX0_isFake 19 = .ok (.iand, 1) := by decide +kernel
theorem dX0_isFake_20 : decode cX0_isFake 20 = .ok (.ifCond .eq 30, 3) := by decide +kernel
theorem dX0_isFake_23 : decode cX0_isFake 23 = .ok (.iload_n 2, 1) := by decide +kernel
theorem dX0_isFake_24 : decode cX0_isFake 24 = .ok (.iconst 1, 1) := by decide +kernel
theorem dX0_isFake_25 : decode cX0_isFake 25 = .ok (.aload_n 0, 1) := by decide +kernel
theorem dX0_isFake_26 : decode cX0_isFake 26 = .ok (.getfield 9, 3) := by decide +kernel
theorem dX0_isFake_29 : decode cX0_isFake 29 = .ok (.iload 4, 2) := by decide +kernel
theorem dX0_isFake_31 : decode cX0_isFake 31 = .ok (.iaload, 1) := by decide +kernel
theorem dX0_isFake_32 : decode cX0_isFake 32 = .ok (.ishl, 1) := by decide +kernel
theorem dX0_isFake_33 : decode cX0_isFake 33 = .ok (.ior, 1) := by decide +kernel
theorem dX0_isFake_34 : decode cX0_isFake 34 = .ok (.istore_n 2, 1) := by decide +kernel
theorem dX0_isFake_35 : decode cX0_isFake 35 = .ok (.iload_n 3, 1) := by decide +kernel
theorem dX0_isFake_36 : decode cX0_isFake 36 = .ok (.aload_n 0, 1) := by decide +kernel
theorem dX0_isFake_37 : decode cX0_isFake 37 = .ok (.getfield 15, 3) := by decide +kernel
theorem dX0_isFake_40 : decode cX0_isFake 40 = .ok (.aload_n 0, 1) := by decide +kernel
theorem dX0_isFake_41 : decode cX0_isFake 41 = .ok (.getfield 9, 3) := by decide +kernel
theorem dX0_isFake_44 : decode cX0_isFake 44 = .ok (.iload 4, 2) := by decide +kernel
theorem dX0_isFake_46 : decode cX0_isFake 46 = .ok (.iaload, 1) := by decide +kernel
theorem dX0_isFake_47 : decode cX0_isFake 47 = .ok (.iaload, 1) := by decide +kernel
theorem dX0_isFake_48 : decode cX0_isFake 48 = .ok (.ior, 1) := by decide +kernel
theorem dX0_isFake_49 : decode cX0_isFake 49 = .ok (.istore_n 3, 1) := by decide +kernel
theorem dX0_isFake_50 : decode cX0_isFake 50 = .ok (.iinc 4 1, 3) := by decide +kernel
theorem dX0_isFake_53 : decode cX0_isFake 53 = .ok (.goto (-46), 3) := by decide +kernel
theorem dX0_isFake_56 : decode cX0_isFake 56 = .ok (.iload_n 2, 1) := by decide +kernel
theorem dX0_isFake_57 : decode cX0_isFake 57 = .ok (.iload_n 3, 1) := by decide +kernel
theorem dX0_isFake_58 : decode cX0_isFake 58 = .ok (.iand, 1) := by decide +kernel
theorem dX0_isFake_59 : decode cX0_isFake 59 = .ok (.ifCond .eq 7, 3) := by decide +kernel
theorem dX0_isFake_62 : decode cX0_isFake 62 = .ok (.iconst 1, 1) := by decide +kernel
theorem dX0_isFake_63 : decode cX0_isFake 63 = .ok (.goto 4, 3) := by decide +kernel
theorem dX0_isFake_66 : decode cX0_isFake 66 = .ok (.iconst 0, 1) := by decide +kernel
theorem dX0_isFake_67 : decode cX0_isFake 67 = .ok (.ireturn, 1) := by decide +kernel
theorem dX0_leastWithout_0 : decode cX0_leastWithout 0 = .ok (.iload_n 1, 1) := by decide +kernel
theorem dX0_leastWithout_1 : decode cX0_leastWithout 1 = .ok (.istore_n 2, 1) := by decide +kernel
theorem dX0_leastWithout_2 : decode cX0_leastWithout 2 = .ok (.iconst 0, 1) := by decide +kernel
theorem dX0_leastWithout_3 : decode cX0_leastWithout 3 = .ok (.istore_n 3, 1) := by decide +kernel
theorem dX0_leastWithout_4 : decode cX0_leastWithout 4 = .ok (.iload_n 3, 1) := by decide +kernel
theorem dX0_leastWithout_5 : decode cX0_leastWithout 5 = .ok (.iload_n 1, 1) := by decide +kernel
theorem dX0_leastWithout_6 : decode cX0_leastWithout 6 = .ok (.if_icmp .ge 53, 3) := by decide +kernel
theorem dX0_leastWithout_9 : decode cX0_leastWithout 9 = .ok (.iload_n 3, 1) := by decide +kernel
theorem dX0_leastWithout_10 : decode cX0_leastWithout 10 = .ok (.iload_n 1, 1) := by decide +kernel
theorem dX0_leastWithout_11 : decode cX0_leastWithout 11 = .ok (.iand, 1) := by decide +kernel
theorem dX0_leastWithout_12 : decode cX0_leastWithout 12 = .ok (.iload_n 3, 1) := by decide +kernel
theorem dX0_leastWithout_13 : decode cX0_leastWithout 13 = .ok (.if_icmp .ne 7, 3) := by decide +kernel
theorem dX0_leastWithout_16 : decode cX0_leastWithout 16 = .ok (.iconst 1, 1) := by decide +kernel
theorem dX0_leastWithout_17 : decode cX0_leastWithout 17 = .ok (.goto 4, 3) := by decide +kernel
theorem dX0_leastWithout_20 : decode cX0_leastWithout 20 = .ok (.iconst 0, 1) := by decide +kernel
theorem dX0_leastWithout_21 : decode cX0_leastWithout 21 = .ok (.istore 4, 2) := by decide +kernel
theorem dX0_leastWithout_23 : decode cX0_leastWithout 23 = .ok (.iload 4, 2) := by decide +kernel
theorem dX0_leastWithout_25 : decode cX0_leastWithout 25 = .ok (.ifCond .eq 28, 3) := by decide +kernel
theorem dX0_leastWithout_28 : decode cX0_leastWithout 28 = .ok (.iload_n 3, 1) := by decide +kernel
theorem dX0_leastWithout_29 : decode cX0_leastWithout 29 = .ok (.invokestatic 22, 3) := by decide +kernel
theorem dX0_leastWithout_32 : decode cX0_leastWithout 32 = .ok (.iload_n 2, 1) := by decide +kernel
theorem dX0_leastWithout_33 : decode cX0_leastWithout 33 = .ok (.invokestatic 22, 3) := by decide +kernel
theorem dX0_leastWithout_36 : decode cX0_leastWithout 36 = .ok (.if_icmp .ge 17, 3) := by decide +kernel
theorem dX0_leastWithout_39 : decode cX0_leastWithout 39 = .ok (.aload_n 0, 1) := by decide +kernel
theorem dX0_leastWithout_40 : decode cX0_leastWithout 40 = .ok (.iload_n 1, 1) := by decide +kernel
theorem dX0_leastWithout_41 : decode cX0_leastWithout 41 = .ok (.iload_n 3, 1) := by decide +kernel
theorem dX0_leastWithout_42 : decode cX0_leastWithout 42 = .ok (.iconst (-1), 1) := by decide +kernel
theorem dX0_leastWithout_43 : decode cX0_leastWithout 43 = .ok (.ixor, 1) := by decide +kernel
theorem dX0_leastWithout_44 : decode cX0_leastWithout 44 = .ok (.iand, 1) := by decide +kernel
theorem dX0_leastWithout_45 : decode cX0_leastWithout 45 = .ok (.invokevirtual 28, 3) := by decide +kernel
theorem dX0_leastWithout_48 : decode cX0_leastWithout 48 = .ok (.ifCond .ne 5, 3) := by decide +kernel
theorem dX0_leastWithout_51 : decode cX0_leastWithout 51 = .ok (.iload_n 3, 1) := by decide +kernel
theorem dX0_leastWithout_52 : decode cX0_leastWithout 52 = .ok (.istore_n 2, 1) := by decide +kernel
theorem dX0_leastWithout_53 : decode cX0_leastWithout 53 = .ok (.iinc 3 1, 3) := by decide +kernel
theorem dX0_leastWithout_56 : decode cX0_leastWithout 56 = .ok (.goto (-52), 3) := by decide +kernel
theorem dX0_leastWithout_59 : decode cX0_leastWithout 59 = .ok (.iload_n 2, 1) := by decide +kernel
theorem dX0_leastWithout_60 : decode cX0_leastWithout 60 = .ok (.ireturn, 1) := by decide +kernel
theorem dX1_init_0 : decode cX1_init 0 = .ok (.aload_n 0, 1) := by decide +kernel
theorem dX1_init_1 : decode cX1_init 1 = .ok (.invokespecial 3, 3) := by decide +kernel
theorem dX1_init_4 : decode cX1_init 4 = .ok (.aload_n 0, 1) := by decide +kernel
theorem dX1_init_5 : decode cX1_init 5 = .ok (.bipush 20, 2) := by decide +kernel
theorem dX1_init_7 : decode cX1_init 7 = .ok (.newarray .int, 2) := by decide +kernel
theorem dX1_init_9 : decode cX1_init 9 = .ok (.putfield 9, 3) := by decide +kernel
theorem dX1_init_12 : decode cX1_init 12 = .ok (.aload_n 0, 1) := by decide +kernel
theorem dX1_init_13 : decode cX1_init 13 = .ok (.bipush 20, 2) := by decide +kernel
theorem dX1_init_15 : decode cX1_init 15 = .ok (.newarray .int, 2) := by decide +kernel
theorem dX1_init_17 : decode cX1_init 17 = .ok (.putfield 15, 3) := by decide +kernel
theorem dX1_init_20 : decode cX1_init 20 = .ok (.aload_n 0, 1) := by decide +kernel
theorem dX1_init_21 : decode cX1_init 21 = .ok (.iconst 4, 1) := by decide +kernel
theorem dX1_init_22 : decode cX1_init 22 = .ok (.newarray .int, 2) := by decide +kernel
theorem dX1_init_24 : decode cX1_init 24 = .ok (.putfield 18, 3) := by decide +kernel
theorem dX1_init_27 : decode cX1_init 27 = .ok (.aload_n 0, 1) := by decide +kernel
theorem dX1_init_28 : decode cX1_init 28 = .ok (.iconst 4, 1) := by decide +kernel
theorem dX1_init_29 : decode cX1_init 29 = .ok (.newarray .int, 2) := by decide +kernel
theorem dX1_init_31 : decode cX1_init 31 = .ok (.putfield 21, 3) := by decide +kernel
theorem dX1_init_34 : decode cX1_init 34 = .ok (.aload_n 0, 1) := by decide +kernel
theorem dX1_init_35 : decode cX1_init 35 = .ok (.bipush 40, 2) := by decide +kernel
theorem dX1_init_37 : decode cX1_init 37 = .ok (.newarray .int, 2) := by decide +kernel
theorem dX1_init_39 : decode cX1_init 39 = .ok (.putfield 24, 3) := by decide +kernel
theorem dX1_init_42 : decode cX1_init 42 = .ok (.aload_n 0, 1) := by decide +kernel
theorem dX1_init_43 : decode cX1_init 43 = .ok (.bipush 40, 2) := by decide +kernel
theorem dX1_init_45 : decode cX1_init 45 = .ok (.newarray .int, 2) := by decide +kernel
theorem dX1_init_47 : decode cX1_init 47 = .ok (.putfield 27, 3) := by decide +kernel
theorem dX1_init_50 : decode cX1_init 50 = .ok (.aload_n 0, 1) := by decide +kernel
theorem dX1_init_51 : decode cX1_init 51 = .ok (.bipush 40, 2) := by decide +kernel
theorem dX1_init_53 : decode cX1_init 53 = .ok (.newarray .int, 2) := by decide +kernel
theorem dX1_init_55 : decode cX1_init 55 = .ok (.putfield 30, 3) := by decide +kernel
theorem dX1_init_58 : decode cX1_init 58 = .ok (.aload_n 0, 1) := by decide +kernel
theorem dX1_init_59 : decode cX1_init 59 = .ok (.bipush 40, 2) := by decide +kernel
theorem dX1_init_61 : decode cX1_init 61 = .ok (.newarray .int, 2) := by decide +kernel
theorem dX1_init_63 : decode cX1_init 63 = .ok (.putfield 33, 3) := by decide +kernel
theorem dX1_init_66 : decode cX1_init 66 = .ok (.aload_n 0, 1) := by decide +kernel
theorem dX1_init_67 : decode cX1_init 67 = .ok (.bipush 40, 2) := by decide +kernel
theorem dX1_init_69 : decode cX1_init 69 = .ok (.newarray .int, 2) := by decide +kernel
theorem dX1_init_71 : decode cX1_init 71 = .ok (.putfield 36, 3) := by decide +kernel
theorem dX1_init_74 : decode cX1_init 74 = .ok (.aload_n 0, 1) := by decide +kernel
theorem dX1_init_75 : decode cX1_init 75 = .ok (.bipush 40, 2) := by decide +kernel
theorem dX1_init_77 : decode cX1_init 77 = .ok (.newarray .long, 2) := by decide +kernel
theorem dX1_init_79 : decode cX1_init 79 = .ok (.putfield 39, 3) := by decide +kernel
theorem dX1_init_82 : decode cX1_init 82 = .ok (.aload_n 0, 1) := by decide +kernel
theorem dX1_init_83 : decode cX1_init 83 = .ok (.iconst 0, 1) := by decide +kernel
theorem dX1_init_84 : decode cX1_init 84 = .ok (.putfield 43, 3) := by decide +kernel
theorem dX1_init_87 : decode cX1_init 87 = .ok (.aload_n 0, 1) := by decide +kernel
theorem dX1_init_88 : decode cX1_init 88 = .ok (.iconst 5, 1) := by decide +kernel
theorem dX1_init_89 : decode cX1_init 89 = .ok (.putfield 47, 3) := by decide +kernel
theorem dX1_init_92 : decode cX1_init 92 = .ok (.aload_n 0, 1) := by decide +kernel
theorem dX1_init_93 : decode cX1_init 93 = .ok (.iconst 1, 1) := by decide +kernel
theorem dX1_init_94 : decode cX1_init 94 = .ok (.putfield 50, 3) := by decide +kernel
theorem dX1_init_97 : decode cX1_init 97 = .ok (.aload_n 0, 1) := by decide +kernel
theorem dX1_init_98 : decode cX1_init 98 = .ok (.iconst 1, 1) := by decide +kernel
theorem dX1_init_99 : decode cX1_init 99 = .ok (.putfield 53, 3) := by decide +kernel
theorem dX1_init_102 : decode cX1_init 102 = .ok (.iconst 0, 1) := by decide +kernel
theorem dX1_init_103 : decode cX1_init 103 = .ok (.istore_n 1, 1) := by decide +kernel
theorem dX1_init_104 : decode cX1_init 104 = .ok (.iload_n 1, 1) := by decide +kernel
theorem dX1_init_105 : decode cX1_init 105 = .ok (.bipush 20, 2) := by decide +kernel
theorem dX1_init_107 : decode cX1_init 107 = .ok (.if_icmp .ge 23, 3) := by decide +kernel
theorem dX1_init_110 : decode cX1_init 110 = .ok (.aload_n 0, 1) := by decide +kernel
theorem dX1_init_111 : decode cX1_init 111 = .ok (.getfield 9, 3) := by decide +kernel
theorem dX1_init_114 : decode cX1_init 114 = .ok (.iload_n 1, 1) := by decide +kernel
theorem dX1_init_115 : decode cX1_init 115 = .ok (.iload_n 1, 1) := by decide +kernel
theorem dX1_init_116 : decode cX1_init 116 = .ok (.iastore, 1) := by decide +kernel
theorem dX1_init_117 : decode cX1_init 117 = .ok (.aload_n 0, 1) := by decide +kernel
theorem dX1_init_118 : decode cX1_init 118 = .ok (.getfield 15, 3) := by decide +kernel
theorem dX1_init_121 : decode cX1_init 121 = .ok (.iload_n 1, 1) := by decide +kernel
theorem dX1_init_122 : decode cX1_init 122 = .ok (.iload_n 1, 1) := by decide +kernel
theorem dX1_init_123 : decode cX1_init 123 = .ok (.iastore, 1) := by decide +kernel
theorem dX1_init_124 : decode cX1_init 124 = .ok (.iinc 1 1, 3) := by decide +kernel
theorem dX1_init_127 : decode cX1_init 127 = .ok (.goto (-23), 3) := by decide +kernel
theorem dX1_init_130 : decode cX1_init 130 = .ok (.iconst 0, 1) := by decide +kernel
theorem dX1_init_131 : decode cX1_init 131 = .ok (.istore_n 1, 1) := by decide +kernel
theorem dX1_init_132 : decode cX1_init 132 = .ok (.iload_n 1, 1) := by decide +kernel
theorem dX1_init_133 : decode cX1_init 133 = .ok (.iconst 4, 1) := by decide +kernel
theorem dX1_init_134 : decode cX1_init 134 = .ok (.if_icmp .ge 18, 3) := by decide +kernel
theorem dX1_init_137 : decode cX1_init 137 = .ok (.aload_n 0, 1) := by decide +kernel
theorem dX1_init_138 : decode cX1_init 138 = .ok (.getfield 18, 3) := by decide +kernel
theorem dX1_init_141 : decode cX1_init 141 = .ok (.iload_n 1, 1) := by decide +kernel
theorem dX1_init_142 : decode cX1_init 142 = .ok (.sipush 1500, 3) := by decide +kernel
theorem dX1_init_145 : decode cX1_init 145 = .ok (.iastore, 1) := by decide +kernel
theorem dX1_init_146 : decode cX1_init 146 = .ok (.iinc 1 1, 3) := by decide +kernel
theorem dX1_init_149 : decode cX1_init 149 = .ok (.goto (-17), 3) := by decide +kernel
theorem dX1_init_152 : decode cX1_init 152 = .ok (.return_, 1) := by decide +kernel
theorem dX1_tellMeaning_0 : decode cX1_tellMeaning 0 = .ok (.aload_n 0, 1) := by decide +kernel
theorem dX1_tellMeaning_1 : decode cX1_tellMeaning 1 = .ok (.getfield 9, 3) := by decide +kernel
theorem dX1_tellMeaning_4 : decode cX1_tellMeaning 4 = .ok (.iload_n 1, 1) := by decide +kernel
theorem dX1_tellMeaning_5 : decode cX1_tellMeaning 5 = .ok (.iaload, 1) := by decide +kernel
theorem dX1_tellMeaning_6 : decode cX1_tellMeaning 6 = .ok (.istore_n 3, 1) := by decide +kernel
theorem dX1_tellMeaning_7 : decode cX1_tellMeaning 7 = .ok (.aload_n 0, 1) := by decide +kernel
theorem dX1_tellMeaning_8 : decode cX1_tellMeaning 8 = .ok (.getfield 9, 3) := by decide +kernel
theorem dX1_tellMeaning_11 : decode cX1_tellMeaning 11 = .ok (.iload_n 1, 1) := by decide +kernel
theorem dX1_tellMeaning_12 : decode cX1_tellMeaning 12 = .ok (.iload_n 2, 1) := by decide +kernel
theorem dX1_tellMeaning_13 : decode cX1_tellMeaning 13 = .ok (.iastore, 1) := by decide +kernel
theorem dX1_tellMeaning_14 : decode cX1_tellMeaning 14 = .ok (.iconst 0, 1) := by decide +kernel
theorem dX1_tellMeaning_15 : decode cX1_tellMeaning 15 = .ok (.istore 4, 2) := by decide +kernel
theorem dX1_tellMeaning_17 : decode cX1_tellMeaning 17 = .ok (.iload 4, 2) := by decide +kernel
theorem dX1_tellMeaning_19 : decode cX1_tellMeaning 19 = .ok (.bipush 20, 2) := by decide +kernel
theorem dX1_tellMeaning_21 : decode cX1_tellMeaning 21 = .ok (.if_icmp .ge 45, 3) := by decide +kernel
theorem dX1_tellMeaning_24 : decode cX1_tellMeaning 24 = .ok (.aload_n 0, 1) := by decide +kernel
theorem dX1_tellMeaning_25 : decode cX1_tellMeaning 25 = .ok (.getfield 15, 3) := by decide +kernel
theorem dX1_tellMeaning_28 : decode cX1_tellMeaning 28 = .ok (.iload 4, 2) := by decide +kernel
theorem dX1_tellMeaning_30 : decode cX1_tellMeaning 30 = .ok (.aload_n 0, 1) := by decide +kernel
theorem dX1_tellMeaning_31 : decode cX1_tellMeaning 31 = .ok (.getfield 9, 3) := by decide +kernel
theorem dX1_tellMeaning_34 : decode cX1_tellMeaning 34 = .ok (.iload 4, 2) := by decide +kernel
theorem dX1_tellMeaning_36 : decode cX1_tellMeaning 36 = .ok (.iaload, 1) := by decide +kernel
theorem dX1_tellMeaning_37 : decode cX1_tellMeaning 37 = .ok (.iload 4, 2) := by decide +kernel
theorem dX1_tellMeaning_39 : decode cX1_tellMeaning 39 = .ok (.if_icmp .ne 8, 3) := by decide +kernel
theorem dX1_tellMeaning_42 : decode cX1_tellMeaning 42 = .ok (.iload 4, 2) := by decide +kernel
theorem dX1_tellMeaning_44 : decode cX1_tellMeaning 44 = .ok (.goto 15, 3) := by decide +kernel
theorem dX1_tellMeaning_47 : decode cX1_tellMeaning 47 = .ok (.aload_n 0, 1) := by decide +kernel
theorem dX1_tellMeaning_48 : decode cX1_tellMeaning 48 = .ok (.getfield 15, 3) := by decide +kernel
theorem dX1_tellMeaning_51 : decode cX1_tellMeaning 51 = .ok (.aload_n 0, 1) := by decide +kernel
theorem dX1_tellMeaning_52 : decode cX1_tellMeaning 52 = .ok (.getfield 9, 3) := by decide +kernel
theorem dX1_tellMeaning_55 : decode cX1_tellMeaning 55 = .ok (.iload 4, 2) := by decide +kernel
theorem dX1_tellMeaning_57 : decode cX1_tellMeaning 57 = .ok (.iaload, 1) := by decide +kernel
theorem dX1_tellMeaning_58 : decode cX1_tellMeaning 58 = .ok (.iaload, 1) := by decide +kernel
theorem dX1_tellMeaning_59 : decode cX1_tellMeaning 59 = .ok (.iastore, 1) := by decide +kernel
theorem dX1_tellMeaning_60 : decode cX1_tellMeaning 60 = .ok (.iinc 4 1, 3) := by decide +kernel
theorem dX1_tellMeaning_63 : decode cX1_tellMeaning 63 = .ok (.goto (-46), 3) := by decide +kernel
theorem dX1_tellMeaning_66 : decode cX1_tellMeaning 66 = .ok (.iconst 0, 1) := by decide +kernel
theorem dX1_tellMeaning_67 : decode cX1_tellMeaning 67 = .ok (.istore 4, 2) := by decide +kernel
theorem dX1_tellMeaning_69 : decode cX1_tellMeaning 69 = .ok (.iload 4, 2) := by decide +kernel
theorem dX1_tellMeaning_71 : decode cX1_tellMeaning 71 = .ok (.aload_n 0, 1) := by decide +kernel
theorem dX1_tellMeaning_72 : decode cX1_tellMeaning 72 = .ok (.getfield 24, 3) := by decide +kernel
theorem dX1_tellMeaning_75 : decode cX1_tellMeaning 75 = .ok (.arraylength, 1) := by decide +kernel
theorem dX1_tellMeaning_76 : decode cX1_tellMeaning 76 = .ok (.if_icmp .ge 27, 3) := by decide +kernel
theorem dX1_tellMeaning_79 : decode cX1_tellMeaning 79 = .ok (.aload_n 0, 1) := by decide +kernel
theorem dX1_tellMeaning_80 : decode cX1_tellMeaning 80 = .ok (.getfield 27, 3) := by decide +kernel
theorem dX1_tellMeaning_83 : decode cX1_tellMeaning 83 = .ok (.iload 4, 2) := by decide +kernel
theorem dX1_tellMeaning_85 : decode cX1_tellMeaning 85 = .ok (.aload_n 0, 1) := by decide +kernel
theorem dX1_tellMeaning_86 : decode cX1_tellMeaning 86 = .ok (.aload_n 0, 1) := by decide +kernel
theorem dX1_tellMeaning_87 : decode cX1_tellMeaning 87 = .ok (.getfield 24, 3) := by decide +kernel
theorem dX1_tellMeaning_90 : decode cX1_tellMeaning 90 = .ok (.iload 4, 2) := by decide +kernel
theorem dX1_tellMeaning_92 : decode cX1_tellMeaning 92 = .ok (.iaload, 1) := by decide +kernel
theorem dX1_tellMeaning_93 : decode cX1_tellMeaning 93 = .ok (.invokevirtual 56, 3) := by decide +kernel
theorem dX1_tellMeaning_96 : decode cX1_tellMeaning 96 = .ok (.iastore, 1) := by decide +kernel
theorem dX1_tellMeaning_97 : decode cX1_tellMeaning 97 = .ok (.iinc 4 1, 3) := by decide +kernel
theorem dX1_tellMeaning_100 : decode cX1_tellMeaning 100 = .ok (.goto (-31), 3) := by decide +kernel
theorem dX1_tellMeaning_103 : decode cX1_tellMeaning 103 = .ok (.aload_n 0, 1) := by decide +kernel
theorem dX1_tellMeaning_104 : decode cX1_tellMeaning 104 = .ok (.dup, 1) := by decide +kernel
theorem dX1_tellMeaning_105 : decode cX1_tellMeaning 105 = .ok (.getfield 53, 3) := by decide +kernel
theorem dX1_tellMeaning_108 : decode cX1_tellMeaning 108 = .ok (.iconst 1, 1) := by decide +kernel
theorem dX1_tellMeaning_109 : decode cX1_tellMeaning 109 = .ok (.iadd, 1) := by decide +kernel
theorem dX1_tellMeaning_110 : decode cX1_tellMeaning 110 = .ok (.putfield 53, 3) := by decide +kernel
theorem dX1_tellMeaning_113 : decode cX1_tellMeaning 113 = .ok (.iload_n 3, 1) := by decide +kernel
theorem dX1_tellMeaning_114 : decode cX1_tellMeaning 114 = .ok (.ireturn, 1) := by decide +kernel
theorem dX1_sensesOf_0 : decode cX1_sensesOf 0 = .ok (.iconst 0, 1) := by decide +kernel
theorem dX1_sensesOf_1 : decode cX1_sensesOf 1 = .ok (.istore_n 2, 1) := by decide +kernel
theorem dX1_sensesOf_2 : decode cX1_sensesOf 2 = .ok (.iconst 0, 1) := by decide +kernel
theorem dX1_sensesOf_3 : decode cX1_sensesOf 3 = .ok (.istore_n 3, 1) := by decide +kernel
theorem dX1_sensesOf_4 : decode cX1_sensesOf 4 = .ok (.iload_n 3, 1) := by decide +kernel
theorem dX1_sensesOf_5 : decode cX1_sensesOf 5 = .ok (.bipush 20, 2) := by decide +kernel
theorem dX1_sensesOf_7 : decode cX1_sensesOf 7 = .ok (.if_icmp .ge 28, 3) := by decide +kernel
theorem dX1_sensesOf_10 : decode cX1_sensesOf 10 = .ok (.iload_n 1, 1) := by decide +kernel
theorem dX1_sensesOf_11 : decode cX1_sensesOf 11 = .ok (.iload_n 3, 1) := by decide +kernel
theorem dX1_sensesOf_12 : decode cX1_sensesOf 12 = .ok (.ishr, 1) := by decide +kernel
theorem dX1_sensesOf_13 : decode cX1_sensesOf 13 = .ok (.iconst 1, 1) := by decide +kernel
theorem dX1_sensesOf_14 : decode cX1_sensesOf 14 = .ok (.iand, 1) := by decide +kernel
theorem dX1_sensesOf_15 : decode cX1_sensesOf 15 = .ok (.ifCond .eq 14, 3) := by decide +kernel
theorem dX1_sensesOf_18 : decode cX1_sensesOf 18 = .ok (.iload_n 2, 1) := by decide +kernel
theorem dX1_sensesOf_19 : decode cX1_sensesOf 19 = .ok (.iconst 1, 1) := by decide +kernel
theorem dX1_sensesOf_20 : decode cX1_sensesOf 20 = .ok (.aload_n 0, 1) := by decide +kernel
theorem dX1_sensesOf_21 : decode cX1_sensesOf 21 = .ok (.getfield 15, 3) := by decide +kernel
theorem dX1_sensesOf_24 : decode cX1_sensesOf 24 = .ok (.iload_n 3, 1) := by decide +kernel
theorem dX1_sensesOf_25 : decode cX1_sensesOf 25 = .ok (.iaload, 1) := by decide +kernel
theorem dX1_sensesOf_26 : decode cX1_sensesOf 26 = .ok (.ishl, 1) := by decide +kernel
theorem dX1_sensesOf_27 : decode cX1_sensesOf 27 = .ok (.ior, 1) := by decide +kernel
theorem dX1_sensesOf_28 : decode cX1_sensesOf 28 = .ok (.istore_n 2, 1) := by decide +kernel
theorem dX1_sensesOf_29 : decode cX1_sensesOf 29 = .ok (.iinc 3 1, 3) := by decide +kernel
theorem dX1_sensesOf_32 : decode cX1_sensesOf 32 = .ok (.goto (-28), 3) := by decide +kernel
theorem dX1_sensesOf_35 : decode cX1_sensesOf 35 = .ok (.iload_n 2, 1) := by decide +kernel
theorem dX1_sensesOf_36 : decode cX1_sensesOf 36 = .ok (.ireturn, 1) := by decide +kernel
theorem dX1_tellYear_0 : decode cX1_tellYear 0 = .ok (.aload_n 0, 1) := by decide +kernel
theorem dX1_tellYear_1 : decode cX1_tellYear 1 = .ok (.getfield 18, 3) := by decide +kernel
theorem dX1_tellYear_4 : decode cX1_tellYear 4 = .ok (.iload_n 1, 1) := by decide +kernel
theorem dX1_tellYear_5 : decode cX1_tellYear 5 = .ok (.iaload, 1) := by decide +kernel
theorem dX1_tellYear_6 : decode cX1_tellYear 6 = .ok (.istore_n 3, 1) := by decide +kernel
theorem dX1_tellYear_7 : decode cX1_tellYear 7 = .ok (.aload_n 0, 1) := by decide +kernel
theorem dX1_tellYear_8 : decode cX1_tellYear 8 = .ok (.getfield 18, 3) := by decide +kernel
theorem dX1_tellYear_11 : decode cX1_tellYear 11 = .ok (.iload_n 1, 1) := by decide +kernel
theorem dX1_tellYear_12 : decode cX1_tellYear 12 = .ok (.iload_n 2, 1) := by decide +kernel
theorem dX1_tellYear_13 : decode cX1_tellYear 13 = .ok (.iastore, 1) := by decide +kernel
theorem dX1_tellYear_14 : decode cX1_tellYear 14 = .ok (.aload_n 0, 1) := by decide +kernel
theorem dX1_tellYear_15 : decode cX1_tellYear 15 = .ok (.dup, 1) := by decide +kernel
theorem dX1_tellYear_16 : decode cX1_tellYear 16 = .ok (.getfield 53, 3) := by decide +kernel
theorem dX1_tellYear_19 : decode cX1_tellYear 19 = .ok (.iconst 1, 1) := by decide +kernel
theorem dX1_tellYear_20 : decode cX1_tellYear 20 = .ok (.iadd, 1) := by decide +kernel
theorem dX1_tellYear_21 : decode cX1_tellYear 21 = .ok (.putfield 53, 3) := by decide +kernel
theorem dX1_tellYear_24 : decode cX1_tellYear 24 = .ok (.iload_n 3, 1) := by decide +kernel
theorem dX1_tellYear_25 : decode cX1_tellYear 25 = .ok (.ireturn, 1) := by decide +kernel
theorem dX1_tellSpare_0 : decode cX1_tellSpare 0 = .ok (.aload_n 0, 1) := by decide +kernel
theorem dX1_tellSpare_1 : decode cX1_tellSpare 1 = .ok (.getfield 47, 3) := by decide +kernel
theorem dX1_tellSpare_4 : decode cX1_tellSpare 4 = .ok (.istore_n 2, 1) := by decide +kernel
theorem dX1_tellSpare_5 : decode cX1_tellSpare 5 = .ok (.aload_n 0, 1) := by decide +kernel
theorem dX1_tellSpare_6 : decode cX1_tellSpare 6 = .ok (.iload_n 1, 1) := by decide +kernel
theorem dX1_tellSpare_7 : decode cX1_tellSpare 7 = .ok (.putfield 47, 3) := by decide +kernel
theorem dX1_tellSpare_10 : decode cX1_tellSpare 10 = .ok (.aload_n 0, 1) := by decide +kernel
theorem dX1_tellSpare_11 : decode cX1_tellSpare 11 = .ok (.dup, 1) := by decide +kernel
theorem dX1_tellSpare_12 : decode cX1_tellSpare 12 = .ok (.getfield 53, 3) := by decide +kernel
theorem dX1_tellSpare_15 : decode cX1_tellSpare 15 = .ok (.iconst 1, 1) := by decide +kernel
theorem dX1_tellSpare_16 : decode cX1_tellSpare 16 = .ok (.iadd, 1) := by decide +kernel
theorem dX1_tellSpare_17 : decode cX1_tellSpare 17 = .ok (.putfield 53, 3) := by decide +kernel
theorem dX1_tellSpare_20 : decode cX1_tellSpare 20 = .ok (.iload_n 2, 1) := by decide +kernel
theorem dX1_tellSpare_21 : decode cX1_tellSpare 21 = .ok (.ireturn, 1) := by decide +kernel
theorem dX1_tellFade_0 : decode cX1_tellFade 0 = .ok (.aload_n 0, 1) := by decide +kernel
theorem dX1_tellFade_1 : decode cX1_tellFade 1 = .ok (.getfield 50, 3) := by decide +kernel
theorem dX1_tellFade_4 : decode cX1_tellFade 4 = .ok (.istore_n 2, 1) := by decide +kernel
theorem dX1_tellFade_5 : decode cX1_tellFade 5 = .ok (.aload_n 0, 1) := by decide +kernel
theorem dX1_tellFade_6 : decode cX1_tellFade 6 = .ok (.iload_n 1, 1) := by decide +kernel
theorem dX1_tellFade_7 : decode cX1_tellFade 7 = .ok (.putfield 50, 3) := by decide +kernel
theorem dX1_tellFade_10 : decode cX1_tellFade 10 = .ok (.aload_n 0, 1) := by decide +kernel
theorem dX1_tellFade_11 : decode cX1_tellFade 11 = .ok (.dup, 1) := by decide +kernel
theorem dX1_tellFade_12 : decode cX1_tellFade 12 = .ok (.getfield 53, 3) := by decide +kernel
theorem dX1_tellFade_15 : decode cX1_tellFade 15 = .ok (.iconst 1, 1) := by decide +kernel
theorem dX1_tellFade_16 : decode cX1_tellFade 16 = .ok (.iadd, 1) := by decide +kernel
theorem dX1_tellFade_17 : decode cX1_tellFade 17 = .ok (.putfield 53, 3) := by decide +kernel
theorem dX1_tellFade_20 : decode cX1_tellFade 20 = .ok (.iload_n 2, 1) := by decide +kernel
theorem dX1_tellFade_21 : decode cX1_tellFade 21 = .ok (.ireturn, 1) := by decide +kernel
theorem dX1_addEntry_0 : decode cX1_addEntry 0 = .ok (.aload_n 0, 1) := by decide +kernel
theorem dX1_addEntry_1 : decode cX1_addEntry 1 = .ok (.getfield 21, 3) := by decide +kernel
theorem dX1_addEntry_4 : decode cX1_addEntry 4 = .ok (.iload_n 1, 1) := by decide +kernel
theorem dX1_addEntry_5 : decode cX1_addEntry 5 = .ok (.iaload, 1) := by decide +kernel
theorem dX1_addEntry_6 : decode cX1_addEntry 6 = .ok (.istore 6, 2) := by decide +kernel
theorem dX1_addEntry_8 : decode cX1_addEntry 8 = .ok (.iload_n 1, 1) := by decide +kernel
theorem dX1_addEntry_9 : decode cX1_addEntry 9 = .ok (.bipush 10, 2) := by decide +kernel
theorem dX1_addEntry_11 : decode cX1_addEntry 11 = .ok (.imul, 1) := by decide +kernel
theorem dX1_addEntry_12 : decode cX1_addEntry 12 = .ok (.iload 6, 2) := by decide +kernel
theorem dX1_addEntry_14 : decode cX1_addEntry 14 = .ok (.iadd, 1) := by decide +kernel
theorem dX1_addEntry_15 : decode cX1_addEntry 15 = .ok (.istore 7, 2) := by decide +kernel
theorem dX1_addEntry_17 : decode cX1_addEntry 17 = .ok (.aload_n 0, 1) := by decide +kernel
theorem dX1_addEntry_18 : decode cX1_addEntry 18 = .ok (.getfield 24, 3) := by decide +kernel
theorem dX1_addEntry_21 : decode cX1_addEntry 21 = .ok (.iload 7, 2) := by decide +kernel
theorem dX1_addEntry_23 : decode cX1_addEntry 23 = .ok (.iload_n 2, 1) := by decide +kernel
theorem dX1_addEntry_24 : decode cX1_addEntry 24 = .ok (.iastore, 1) := by decide +kernel
theorem dX1_addEntry_25 : decode cX1_addEntry 25 = .ok (.aload_n 0, 1) := by decide +kernel
theorem dX1_addEntry_26 : decode cX1_addEntry 26 = .ok (.getfield 27, 3) := by decide +kernel
theorem dX1_addEntry_29 : decode cX1_addEntry 29 = .ok (.iload 7, 2) := by decide +kernel
theorem dX1_addEntry_31 : decode cX1_addEntry 31 = .ok (.aload_n 0, 1) := by decide +kernel
theorem dX1_addEntry_32 : decode cX1_addEntry 32 = .ok (.iload_n 2, 1) := by decide +kernel
theorem dX1_addEntry_33 : decode cX1_addEntry 33 = .ok (.invokevirtual 56, 3) := by decide +kernel
theorem dX1_addEntry_36 : decode cX1_addEntry 36 = .ok (.iastore, 1) := by decide +kernel
theorem dX1_addEntry_37 : decode cX1_addEntry 37 = .ok (.aload_n 0, 1) := by decide +kernel
theorem dX1_addEntry_38 : decode cX1_addEntry 38 = .ok (.getfield 30, 3) := by decide +kernel
theorem dX1_addEntry_41 : decode cX1_addEntry 41 = .ok (.iload 7, 2) := by decide +kernel
theorem dX1_addEntry_43 : decode cX1_addEntry 43 = .ok (.iload_n 3, 1) := by decide +kernel
theorem dX1_addEntry_44 : decode cX1_addEntry 44 = .ok (.iastore, 1) := by decide +kernel
theorem dX1_addEntry_45 : decode cX1_addEntry 45 = .ok (.aload_n 0, 1) := by decide +kernel
theorem dX1_addEntry_46 : decode cX1_addEntry 46 = .ok (.getfield 33, 3) := by decide +kernel
theorem dX1_addEntry_49 : decode cX1_addEntry 49 = .ok (.iload 7, 2) := by decide +kernel
theorem dX1_addEntry_51 : decode cX1_addEntry 51 = .ok (.iload 4, 2) := by decide +kernel
theorem dX1_addEntry_53 : decode cX1_addEntry 53 = .ok (.iastore, 1) := by decide +kernel
theorem dX1_addEntry_54 : decode cX1_addEntry 54 = .ok (.aload_n 0, 1) := by decide +kernel
theorem dX1_addEntry_55 : decode cX1_addEntry 55 = .ok (.getfield 36, 3) := by decide +kernel
theorem dX1_addEntry_58 : decode cX1_addEntry 58 = .ok (.iload 7, 2) := by decide +kernel
theorem dX1_addEntry_60 : decode cX1_addEntry 60 = .ok (.iload 5, 2) := by decide +kernel
theorem dX1_addEntry_62 : decode cX1_addEntry 62 = .ok (.iastore, 1) := by decide +kernel
theorem dX1_addEntry_63 : decode cX1_addEntry 63 = .ok (.aload_n 0, 1) := by decide +kernel
theorem dX1_addEntry_64 : decode cX1_addEntry 64 = .ok (.getfield 21, 3) := by decide +kernel
theorem dX1_addEntry_67 : decode cX1_addEntry 67 = .ok (.iload_n 1, 1) := by decide +kernel
theorem dX1_addEntry_68 : decode cX1_addEntry 68 = .ok (.iload 6, 2) := by decide +kernel
theorem dX1_addEntry_70 : decode cX1_addEntry 70 = .ok (.iconst 1, 1) := by decide +kernel
theorem dX1_addEntry_71 : decode cX1_addEntry 71 = .ok (.iadd, 1) := by decide +kernel
theorem dX1_addEntry_72 : decode cX1_addEntry 72 = .ok (.iastore, 1) := by decide +kernel
theorem dX1_addEntry_73 : decode cX1_addEntry 73 = .ok (.aload_n 0, 1) := by decide +kernel
theorem dX1_addEntry_74 : decode cX1_addEntry 74 = .ok (.dup, 1) := by decide +kernel
theorem dX1_addEntry_75 : decode cX1_addEntry 75 = .ok (.getfield 53, 3) := by decide +kernel
theorem dX1_addEntry_78 : decode cX1_addEntry 78 = .ok (.iconst 1, 1) := by decide +kernel
theorem dX1_addEntry_79 : decode cX1_addEntry 79 = .ok (.iadd, 1) := by decide +kernel
theorem dX1_addEntry_80 : decode cX1_addEntry 80 = .ok (.putfield 53, 3) := by decide +kernel
theorem dX1_addEntry_83 : decode cX1_addEntry 83 = .ok (.iload 6, 2) := by decide +kernel
theorem dX1_addEntry_85 : decode cX1_addEntry 85 = .ok (.ireturn, 1) := by decide +kernel
theorem dX1_isBarTold_0 : decode cX1_isBarTold 0 = .ok (.aload_n 0, 1) := by decide +kernel
theorem dX1_isBarTold_1 : decode cX1_isBarTold 1 = .ok (.getfield 39, 3) := by decide +kernel
theorem dX1_isBarTold_4 : decode cX1_isBarTold 4 = .ok (.iload_n 1, 1) := by decide +kernel
theorem dX1_isBarTold_5 : decode cX1_isBarTold 5 = .ok (.laload, 1) := by decide +kernel
theorem dX1_isBarTold_6 : decode cX1_isBarTold 6 = .ok (.iload_n 2, 1) := by decide +kernel
theorem dX1_isBarTold_7 : decode cX1_isBarTold 7 = .ok (.lshr, 1) := by decide +kernel
theorem dX1_isBarTold_8 : decode cX1_isBarTold 8 = .ok (.lconst 1, 1) := by decide +kernel
theorem dX1_isBarTold_9 : decode cX1_isBarTold 9 = .ok (.land, 1) := by decide +kernel
theorem dX1_isBarTold_10 : decode cX1_isBarTold 10 = .ok (.lconst 0, 1) := by decide +kernel
theorem dX1_isBarTold_11 : decode cX1_isBarTold 11 = .ok (.lcmp, 1) := by decide +kernel
theorem dX1_isBarTold_12 : decode cX1_isBarTold 12 = .ok (.ifCond .eq 7, 3) := by decide +kernel
theorem dX1_isBarTold_15 : decode cX1_isBarTold 15 = .ok (.iconst 1, 1) := by decide +kernel
theorem dX1_isBarTold_16 : decode cX1_isBarTold 16 = .ok (.goto 4, 3) := by decide +kernel
theorem dX1_isBarTold_19 : decode cX1_isBarTold 19 = .ok (.iconst 0, 1) := by decide +kernel
theorem dX1_isBarTold_20 : decode cX1_isBarTold 20 = .ok (.ireturn, 1) := by decide +kernel
theorem dX1_tellBar_0 : decode cX1_tellBar 0 = .ok (.aload_n 0, 1) := by decide +kernel
theorem dX1_tellBar_1 : decode cX1_tellBar 1 = .ok (.getfield 39, 3) := by decide +kernel
theorem dX1_tellBar_4 : decode cX1_tellBar 4 = .ok (.iload_n 1, 1) := by decide +kernel
theorem dX1_tellBar_5 : decode cX1_tellBar 5 = .ok (.dup2, 1) := by decide +kernel
theorem dX1_tellBar_6 : decode cX1_tellBar 6 = .ok (.laload, 1) := by decide +kernel
theorem dX1_tellBar_7 : decode cX1_tellBar 7 = .ok (.lconst 1, 1) := by decide +kernel
theorem dX1_tellBar_8 : decode cX1_tellBar 8 = .ok (.iload_n 2, 1) := by decide +kernel
theorem dX1_tellBar_9 : decode cX1_tellBar 9 = .ok (.lshl, 1) := by decide +kernel
theorem dX1_tellBar_10 : decode cX1_tellBar 10 = .ok (.lor, 1) := by decide +kernel
theorem dX1_tellBar_11 : decode cX1_tellBar 11 = .ok (.lastore, 1) := by decide +kernel
theorem dX1_tellBar_12 : decode cX1_tellBar 12 = .ok (.aload_n 0, 1) := by decide +kernel
theorem dX1_tellBar_13 : decode cX1_tellBar 13 = .ok (.getfield 39, 3) := by decide +kernel
theorem dX1_tellBar_16 : decode cX1_tellBar 16 = .ok (.iload_n 2, 1) := by decide +kernel
theorem dX1_tellBar_17 : decode cX1_tellBar 17 = .ok (.dup2, 1) := by decide +kernel
theorem dX1_tellBar_18 : decode cX1_tellBar 18 = .ok (.laload, 1) := by decide +kernel
theorem dX1_tellBar_19 : decode cX1_tellBar 19 = .ok (.lconst 1, 1) := by decide +kernel
theorem dX1_tellBar_20 : decode cX1_tellBar 20 = .ok (.iload_n 1, 1) := by decide +kernel
theorem dX1_tellBar_21 : decode cX1_tellBar 21 = .ok (.lshl, 1) := by decide +kernel
theorem dX1_tellBar_22 : decode cX1_tellBar 22 = .ok (.lor, 1) := by decide +kernel
theorem dX1_tellBar_23 : decode cX1_tellBar 23 = .ok (.lastore, 1) := by decide +kernel
theorem dX1_tellBar_24 : decode cX1_tellBar 24 = .ok (.aload_n 0, 1) := by decide +kernel
theorem dX1_tellBar_25 : decode cX1_tellBar 25 = .ok (.dup, 1) := by decide +kernel
theorem dX1_tellBar_26 : decode cX1_tellBar 26 = .ok (.getfield 43, 3) := by decide +kernel
theorem dX1_tellBar_29 : decode cX1_tellBar 29 = .ok (.iconst 1, 1) := by decide +kernel
theorem dX1_tellBar_30 : decode cX1_tellBar 30 = .ok (.iadd, 1) := by decide +kernel
theorem dX1_tellBar_31 : decode cX1_tellBar 31 = .ok (.putfield 43, 3) := by decide +kernel
theorem dX1_tellBar_34 : decode cX1_tellBar 34 = .ok (.aload_n 0, 1) := by decide +kernel
theorem dX1_tellBar_35 : decode cX1_tellBar 35 = .ok (.dup, 1) := by decide +kernel
theorem dX1_tellBar_36 : decode cX1_tellBar 36 = .ok (.getfield 53, 3) := by decide +kernel
theorem dX1_tellBar_39 : decode cX1_tellBar 39 = .ok (.iconst 1, 1) := by decide +kernel
theorem dX1_tellBar_40 : decode cX1_tellBar 40 = .ok (.iadd, 1) := by decide +kernel
theorem dX1_tellBar_41 : decode cX1_tellBar 41 = .ok (.putfield 53, 3) := by decide +kernel
theorem dX1_tellBar_44 : decode cX1_tellBar 44 = .ok (.return_, 1) := by decide +kernel
theorem dX1_isSameText_0 : decode cX1_isSameText 0 = .ok (.aload_n 0, 1) := by decide +kernel
theorem dX1_isSameText_1 : decode cX1_isSameText 1 = .ok (.getfield 24, 3) := by decide +kernel
theorem dX1_isSameText_4 : decode cX1_isSameText 4 = .ok (.iload_n 1, 1) := by decide +kernel
theorem dX1_isSameText_5 : decode cX1_isSameText 5 = .ok (.iaload, 1) := by decide +kernel
theorem dX1_isSameText_6 : decode cX1_isSameText 6 = .ok (.aload_n 0, 1) := by decide +kernel
theorem dX1_isSameText_7 : decode cX1_isSameText 7 = .ok (.getfield 24, 3) := by decide +kernel
theorem dX1_isSameText_10 : decode cX1_isSameText 10 = .ok (.iload_n 2, 1) := by decide +kernel
theorem dX1_isSameText_11 : decode cX1_isSameText 11 = .ok (.iaload, 1) := by decide +kernel
theorem dX1_isSameText_12 : decode cX1_isSameText 12 = .ok (.if_icmp .ne 22, 3) := by decide +kernel
theorem dX1_isSameText_15 : decode cX1_isSameText 15 = .ok (.aload_n 0, 1) := by decide +kernel
theorem dX1_isSameText_16 : decode cX1_isSameText 16 = .ok (.getfield 30, 3) := by decide +kernel
theorem dX1_isSameText_19 : decode cX1_isSameText 19 = .ok (.iload_n 1, 1) := by decide +kernel
theorem dX1_isSameText_20 : decode cX1_isSameText 20 = .ok (.iaload, 1) := by decide +kernel
theorem dX1_isSameText_21 : decode cX1_isSameText 21 = .ok (.aload_n 0, 1) := by decide +kernel
theorem dX1_isSameText_22 : decode cX1_isSameText 22 = .ok (.getfield 30, 3) := by decide +kernel
theorem dX1_isSameText_25 : decode cX1_isSameText 25 = .ok (.iload_n 2, 1) := by decide +kernel
theorem dX1_isSameText_26 : decode cX1_isSameText 26 = .ok (.iaload, 1) := by decide +kernel
theorem dX1_isSameText_27 : decode cX1_isSameText 27 = .ok (.if_icmp .ne 7, 3) := by decide +kernel
theorem dX1_isSameText_30 : decode cX1_isSameText 30 = .ok (.iconst 1, 1) := by decide +kernel
theorem dX1_isSameText_31 : decode cX1_isSameText 31 = .ok (.goto 4, 3) := by decide +kernel
theorem dX1_isSameText_34 : decode cX1_isSameText 34 = .ok (.iconst 0, 1) := by decide +kernel
theorem dX1_isSameText_35 : decode cX1_isSameText 35 = .ok (.ireturn, 1) := by decide +kernel
theorem dX1_likeness_0 : decode cX1_likeness 0 = .ok (.aload_n 0, 1) := by decide +kernel
theorem dX1_likeness_1 : decode cX1_likeness 1 = .ok (.getfield 30, 3) := by decide +kernel
theorem dX1_likeness_4 : decode cX1_likeness 4 = .ok (.iload_n 1, 1) := by decide +kernel
theorem dX1_likeness_5 : decode cX1_likeness 5 = .ok (.iaload, 1) := by decide +kernel
theorem dX1_likeness_6 : decode cX1_likeness 6 = .ok (.aload_n 0, 1) := by decide +kernel
theorem dX1_likeness_7 : decode cX1_likeness 7 = .ok (.getfield 30, 3) := by decide +kernel
theorem dX1_likeness_10 : decode cX1_likeness 10 = .ok (.iload_n 2, 1) := by decide +kernel
theorem dX1_likeness_11 : decode cX1_likeness 11 = .ok (.iaload, 1) := by decide +kernel
theorem dX1_likeness_12 : decode cX1_likeness 12 = .ok (.isub, 1) := by decide +kernel
theorem dX1_likeness_13 : decode cX1_likeness 13 = .ok (.invokestatic 60, 3) := by decide +kernel
theorem dX1_likeness_16 : decode cX1_likeness 16 = .ok (.istore_n 3, 1) := by decide +kernel
theorem dX1_likeness_17 : decode cX1_likeness 17 = .ok (.aload_n 0, 1) := by decide +kernel
theorem dX1_likeness_18 : decode cX1_likeness 18 = .ok (.getfield 27, 3) := by decide +kernel
theorem dX1_likeness_21 : decode cX1_likeness 21 = .ok (.iload_n 1, 1) := by decide +kernel
theorem dX1_likeness_22 : decode cX1_likeness 22 = .ok (.iaload, 1) := by decide +kernel
theorem dX1_likeness_23 : decode cX1_likeness 23 = .ok (.aload_n 0, 1) := by decide +kernel
theorem dX1_likeness_24 : decode cX1_likeness 24 = .ok (.getfield 27, 3) := by decide +kernel
theorem dX1_likeness_27 : decode cX1_likeness 27 = .ok (.iload_n 2, 1) := by decide +kernel
theorem dX1_likeness_28 : decode cX1_likeness 28 = .ok (.iaload, 1) := by decide +kernel
theorem dX1_likeness_29 : decode cX1_likeness 29 = .ok (.iand, 1) := by decide +kernel
theorem dX1_likeness_30 : decode cX1_likeness 30 = .ok (.istore 4, 2) := by decide +kernel
theorem dX1_likeness_32 : decode cX1_likeness 32 = .ok (.iload_n 3, 1) := by decide +kernel
theorem dX1_likeness_33 : decode cX1_likeness 33 = .ok (.aload_n 0, 1) := by decide +kernel
theorem dX1_likeness_34 : decode cX1_likeness 34 = .ok (.getfield 47, 3) := by decide +kernel
theorem dX1_likeness_37 : decode cX1_likeness 37 = .ok (.if_icmp .gt 26, 3) := by decide +kernel
theorem dX1_likeness_40 : decode cX1_likeness 40 = .ok (.iload 4, 2) := by decide +kernel
theorem dX1_likeness_42 : decode cX1_likeness 42 = .ok (.ifCond .eq 21, 3) := by decide +kernel
theorem dX1_likeness_45 : decode cX1_likeness 45 = .ok (.aload_n 0, 1) := by decide +kernel
theorem dX1_likeness_46 : decode cX1_likeness 46 = .ok (.iload_n 1, 1) := by decide +kernel
theorem dX1_likeness_47 : decode cX1_likeness 47 = .ok (.iload_n 2, 1) := by decide +kernel
theorem dX1_likeness_48 : decode cX1_likeness 48 = .ok (.invokevirtual 65, 3) := by decide +kernel
theorem dX1_likeness_51 : decode cX1_likeness 51 = .ok (.ifCond .ne 12, 3) := by decide +kernel
theorem dX1_likeness_54 : decode cX1_likeness 54 = .ok (.aload_n 0, 1) := by decide +kernel
theorem dX1_likeness_55 : decode cX1_likeness 55 = .ok (.iload_n 1, 1) := by decide +kernel
theorem dX1_likeness_56 : decode cX1_likeness 56 = .ok (.iload_n 2, 1) := by decide +kernel
theorem dX1_likeness_57 : decode cX1_likeness 57 = .ok (.invokevirtual 69, 3) := by decide +kernel
theorem dX1_likeness_60 : decode cX1_likeness 60 = .ok (.ifCond .ne 5, 3) := by decide +kernel
theorem dX1_likeness_63 : decode cX1_likeness 63 = .ok (.iconst 0, 1) := by decide +kernel
theorem dX1_likeness_64 : decode cX1_likeness 64 = .ok (.ireturn, 1) := by decide +kernel
theorem dX1_likeness_65 : decode cX1_likeness 65 = .ok (.bipush 10, 2) := by decide +kernel
theorem dX1_likeness_67 : decode cX1_likeness 67 = .ok (.iload 4, 2) := by decide +kernel
theorem dX1_likeness_69 : decode cX1_likeness 69 = .ok (.invokestatic 72, 3) := by decide +kernel
theorem dX1_likeness_72 : decode cX1_likeness 72 = .ok (.imul, 1) := by decide +kernel
theorem dX1_likeness_73 : decode cX1_likeness 73 = .ok (.iconst 2, 1) := by decide +kernel
theorem dX1_likeness_74 : decode cX1_likeness 74 = .ok (.aload_n 0, 1) := by decide +kernel
theorem dX1_likeness_75 : decode cX1_likeness 75 = .ok (.getfield 27, 3) := by decide +kernel
theorem dX1_likeness_78 : decode cX1_likeness 78 = .ok (.iload_n 1, 1) := by decide +kernel
theorem dX1_likeness_79 : decode cX1_likeness 79 = .ok (.iaload, 1) := by decide +kernel
theorem dX1_likeness_80 : decode cX1_likeness 80 = .ok (.aload_n 0, 1) := by decide +kernel
theorem dX1_likeness_81 : decode cX1_likeness 81 = .ok (.getfield 27, 3) := by decide +kernel
theorem dX1_likeness_84 : decode cX1_likeness 84 = .ok (.iload_n 2, 1) := by decide +kernel
theorem dX1_likeness_85 : decode cX1_likeness 85 = .ok (.iaload, 1) := by decide +kernel
theorem dX1_likeness_86 : decode cX1_likeness 86 = .ok (.ixor, 1) := by decide +kernel
theorem dX1_likeness_87 : decode cX1_likeness 87 = .ok (.invokestatic 72, 3) := by decide +kernel
theorem dX1_likeness_90 : decode cX1_likeness 90 = .ok (.imul, 1) := by decide +kernel
theorem dX1_likeness_91 : decode cX1_likeness 91 = .ok (.isub, 1) := by decide +kernel
theorem dX1_likeness_92 : decode cX1_likeness 92 = .ok (.iload_n 3, 1) := by decide +kernel
theorem dX1_likeness_93 : decode cX1_likeness 93 = .ok (.isub, 1) := by decide +kernel
theorem dX1_likeness_94 : decode cX1_likeness 94 = .ok (.istore 5, 2) := by decide +kernel
theorem dX1_likeness_96 : decode cX1_likeness 96 = .ok (.aload_n 0, 1) := by decide +kernel
theorem dX1_likeness_97 : decode cX1_likeness 97 = .ok (.getfield 33, 3) := by decide +kernel
theorem dX1_likeness_100 : decode cX1_likeness 100 = .ok (.iload_n 1, 1) := by decide +kernel
theorem dX1_likeness_101 : decode cX1_likeness 101 = .ok (.iaload, 1) := by decide +kernel
theorem dX1_likeness_102 : decode cX1_likeness 102 = .ok (.aload_n 0, 1) := by decide +kernel
theorem dX1_likeness_103 : decode cX1_likeness 103 = .ok (.getfield 33, 3) := by decide +kernel
theorem dX1_likeness_106 : decode cX1_likeness 106 = .ok (.iload_n 2, 1) := by decide +kernel
theorem dX1_likeness_107 : decode cX1_likeness 107 = .ok (.iaload, 1) := by decide +kernel
theorem dX1_likeness_108 : decode cX1_likeness 108 = .ok (.if_icmp .ne 6, 3) := by decide +kernel
theorem dX1_likeness_111 : decode cX1_likeness 111 = .ok (.iinc 5 7, 3) := by decide +kernel
theorem dX1_likeness_114 : decode cX1_likeness 114 = .ok (.iconst 1, 1) := by decide +kernel
theorem dX1_likeness_115 : decode cX1_likeness 115 = .ok (.iload 5, 2) := by decide +kernel
theorem dX1_likeness_117 : decode cX1_likeness 117 = .ok (.invokestatic 77, 3) := by decide +kernel
theorem dX1_likeness_120 : decode cX1_likeness 120 = .ok (.ireturn, 1) := by decide +kernel
theorem dX1_fadesAsItMay_0 : decode cX1_fadesAsItMay 0 = .ok (.iload_n 1, 1) := by decide +kernel
theorem dX1_fadesAsItMay_1 : decode cX1_fadesAsItMay 1 = .ok (.bipush 10, 2) := by decide +kernel
theorem dX1_fadesAsItMay_3 : decode cX1_fadesAsItMay 3 = .ok (.idiv, 1) := by decide +kernel
theorem dX1_fadesAsItMay_4 : decode cX1_fadesAsItMay 4 = .ok (.istore_n 3, 1) := by decide +kernel
theorem dX1_fadesAsItMay_5 : decode cX1_fadesAsItMay 5 = .ok (.iload_n 2, 1) := by decide +kernel
theorem dX1_fadesAsItMay_6 : decode cX1_fadesAsItMay 6 = .ok (.bipush 10, 2) := by decide +kernel
theorem dX1_fadesAsItMay_8 : decode cX1_fadesAsItMay 8 = .ok (.idiv, 1) := by decide +kernel
theorem dX1_fadesAsItMay_9 : decode cX1_fadesAsItMay 9 = .ok (.istore 4, 2) := by decide +kernel
theorem dX1_fadesAsItMay_11 : decode cX1_fadesAsItMay 11 = .ok (.aload_n 0, 1) := by decide +kernel
theorem dX1_fadesAsItMay_12 : decode cX1_fadesAsItMay 12 = .ok (.getfield 18, 3) := by decide +kernel
theorem dX1_fadesAsItMay_15 : decode cX1_fadesAsItMay 15 = .ok (.iload_n 3, 1) := by decide +kernel
theorem dX1_fadesAsItMay_16 : decode cX1_fadesAsItMay 16 = .ok (.iaload, 1) := by decide +kernel
theorem dX1_fadesAsItMay_17 : decode cX1_fadesAsItMay 17 = .ok (.aload_n 0, 1) := by decide +kernel
theorem dX1_fadesAsItMay_18 : decode cX1_fadesAsItMay 18 = .ok (.getfield 18, 3) := by decide +kernel
theorem dX1_fadesAsItMay_21 : decode cX1_fadesAsItMay 21 = .ok (.iload 4, 2) := by decide +kernel
theorem dX1_fadesAsItMay_23 : decode cX1_fadesAsItMay 23 = .ok (.iaload, 1) := by decide +kernel
theorem dX1_fadesAsItMay_24 : decode cX1_fadesAsItMay 24 = .ok (.if_icmp .eq 27, 3) := by decide +kernel
theorem dX1_fadesAsItMay_27 : decode cX1_fadesAsItMay 27 = .ok (.aload_n 0, 1) := by decide +kernel
theorem dX1_fadesAsItMay_28 : decode cX1_fadesAsItMay 28 = .ok (.getfield 18, 3) := by decide +kernel
theorem dX1_fadesAsItMay_31 : decode cX1_fadesAsItMay 31 = .ok (.iload_n 3, 1) := by decide +kernel
theorem dX1_fadesAsItMay_32 : decode cX1_fadesAsItMay 32 = .ok (.iaload, 1) := by decide +kernel
theorem dX1_fadesAsItMay_33 : decode cX1_fadesAsItMay 33 = .ok (.aload_n 0, 1) := by decide +kernel
theorem dX1_fadesAsItMay_34 : decode cX1_fadesAsItMay 34 = .ok (.getfield 18, 3) := by decide +kernel
theorem dX1_fadesAsItMay_37 : decode cX1_fadesAsItMay 37 = .ok (.iload 4, 2) := by decide +kernel
theorem dX1_fadesAsItMay_39 : decode cX1_fadesAsItMay 39 = .ok (.iaload, 1) := by decide +kernel
theorem dX1_fadesAsItMay_40 : decode cX1_fadesAsItMay 40 = .ok (.if_icmp .ge 7, 3) := by decide +kernel
theorem dX1_fadesAsItMay_43 : decode cX1_fadesAsItMay 43 = .ok (.iconst 1, 1) := by decide +kernel
theorem dX1_fadesAsItMay_44 : decode cX1_fadesAsItMay 44 = .ok (.goto 18, 3) := by decide +kernel
theorem dX1_fadesAsItMay_47 : decode cX1_fadesAsItMay 47 = .ok (.iconst 0, 1) := by decide +kernel
theorem dX1_fadesAsItMay_48 : decode cX1_fadesAsItMay 48 = .ok (.goto 14, 3) := by decide +kernel
theorem dX1_fadesAsItMay_51 : decode cX1_fadesAsItMay 51 = .ok (.iload_n 3, 1) := by decide +kernel
theorem dX1_fadesAsItMay_52 : decode cX1_fadesAsItMay 52 = .ok (.iload 4, 2) := by decide +kernel
theorem dX1_fadesAsItMay_54 : decode cX1_fadesAsItMay 54 = .ok (.if_icmp .ge 7, 3) := by decide +kernel
theorem dX1_fadesAsItMay_57 : decode cX1_fadesAsItMay 57 = .ok (.iconst 1, 1) := by decide +kernel
theorem dX1_fadesAsItMay_58 : decode cX1_fadesAsItMay 58 = .ok (.goto 4, 3) := by decide +kernel
theorem dX1_fadesAsItMay_61 : decode cX1_fadesAsItMay 61 = .ok (.iconst 0, 1) := by decide +kernel
theorem dX1_fadesAsItMay_62 : decode cX1_fadesAsItMay 62 = .ok (.istore 5, 2) := by decide +kernel
theorem dX1_fadesAsItMay_64 : decode cX1_fadesAsItMay 64 = .ok (.iload 5, 2) := by decide +kernel
theorem dX1_fadesAsItMay_66 : decode cX1_fadesAsItMay 66 = .ok (.ifCond .eq 19, 3) := by decide +kernel
theorem dX1_fadesAsItMay_69 : decode cX1_fadesAsItMay 69 = .ok (.aload_n 0, 1) := by decide +kernel
theorem dX1_fadesAsItMay_70 : decode cX1_fadesAsItMay 70 = .ok (.getfield 36, 3) := by decide +kernel
theorem dX1_fadesAsItMay_73 : decode cX1_fadesAsItMay 73 = .ok (.iload_n 1, 1) := by decide +kernel
theorem dX1_fadesAsItMay_74 : decode cX1_fadesAsItMay 74 = .ok (.iaload, 1) := by decide +kernel
theorem dX1_fadesAsItMay_75 : decode cX1_fadesAsItMay 75 = .ok (.aload_n 0, 1) := by decide +kernel
theorem dX1_fadesAsItMay_76 : decode cX1_fadesAsItMay 76 = .ok (.getfield 36, 3) := by decide +kernel
theorem dX1_fadesAsItMay_79 : decode cX1_fadesAsItMay 79 = .ok (.iload_n 2, 1) := by decide +kernel
theorem dX1_fadesAsItMay_80 : decode cX1_fadesAsItMay 80 = .ok (.iaload, 1) := by decide +kernel
theorem dX1_fadesAsItMay_81 : decode cX1_fadesAsItMay 81 = .ok (.isub, 1) := by decide +kernel
theorem dX1_fadesAsItMay_82 : decode cX1_fadesAsItMay 82 = .ok (.goto 16, 3) := by decide +kernel
theorem dX1_fadesAsItMay_85 : decode cX1_fadesAsItMay 85 = .ok (.aload_n 0, 1) := by decide +kernel
theorem dX1_fadesAsItMay_86 : decode cX1_fadesAsItMay 86 = .ok (.getfield 36, 3) := by decide +kernel
theorem dX1_fadesAsItMay_89 : decode cX1_fadesAsItMay 89 = .ok (.iload_n 2, 1) := by decide +kernel
theorem dX1_fadesAsItMay_90 : decode cX1_fadesAsItMay 90 = .ok (.iaload, 1) := by decide +kernel
theorem dX1_fadesAsItMay_91 : decode cX1_fadesAsItMay 91 = .ok (.aload_n 0, 1) := by decide +kernel
theorem dX1_fadesAsItMay_92 : decode cX1_fadesAsItMay 92 = .ok (.getfield 36, 3) := by decide +kernel
theorem dX1_fadesAsItMay_95 : decode cX1_fadesAsItMay 95 = .ok (.iload_n 1, 1) := by decide +kernel
theorem dX1_fadesAsItMay_96 : decode cX1_fadesAsItMay 96 = .ok (.iaload, 1) := by decide +kernel
theorem dX1_fadesAsItMay_97 : decode cX1_fadesAsItMay 97 = .ok (.isub, 1) := by decide +kernel
theorem dX1_fadesAsItMay_98 : decode cX1_fadesAsItMay 98 = .ok (.istore 6, 2) := by decide +kernel
theorem dX1_fadesAsItMay_100 : decode cX1_fadesAsItMay 100 = .ok (.iload 5, 2) := by decide +kernel
theorem dX1_fadesAsItMay_102 : decode cX1_fadesAsItMay 102 = .ok (.ifCond .eq 20, 3) := by decide +kernel
theorem dX1_fadesAsItMay_105 : decode cX1_fadesAsItMay 105 = .ok (.aload_n 0, 1) := by decide +kernel
theorem dX1_fadesAsItMay_106 : decode cX1_fadesAsItMay 106 = .ok (.getfield 18, 3) := by decide +kernel
theorem dX1_fadesAsItMay_109 : decode cX1_fadesAsItMay 109 = .ok (.iload 4, 2) := by decide +kernel
theorem dX1_fadesAsItMay_111 : decode cX1_fadesAsItMay 111 = .ok (.iaload, 1) := by decide +kernel
theorem dX1_fadesAsItMay_112 : decode cX1_fadesAsItMay 112 = .ok (.aload_n 0, 1) := by decide +kernel
theorem dX1_fadesAsItMay_113 : decode cX1_fadesAsItMay 113 = .ok (.getfield 18, 3) := by decide +kernel
theorem dX1_fadesAsItMay_116 : decode cX1_fadesAsItMay 116 = .ok (.iload_n 3, 1) := by decide +kernel
theorem dX1_fadesAsItMay_117 : decode cX1_fadesAsItMay 117 = .ok (.iaload, 1) := by decide +kernel
theorem dX1_fadesAsItMay_118 : decode cX1_fadesAsItMay 118 = .ok (.isub, 1) := by decide +kernel
theorem dX1_fadesAsItMay_119 : decode cX1_fadesAsItMay 119 = .ok (.goto 17, 3) := by decide +kernel
theorem dX1_fadesAsItMay_122 : decode cX1_fadesAsItMay 122 = .ok (.aload_n 0, 1) := by decide +kernel
theorem dX1_fadesAsItMay_123 : decode cX1_fadesAsItMay 123 = .ok (.getfield 18, 3) := by decide +kernel
theorem dX1_fadesAsItMay_126 : decode cX1_fadesAsItMay 126 = .ok (.iload_n 3, 1) := by decide +kernel
theorem dX1_fadesAsItMay_127 : decode cX1_fadesAsItMay 127 = .ok (.iaload, 1) := by decide +kernel
theorem dX1_fadesAsItMay_128 : decode cX1_fadesAsItMay 128 = .ok (.aload_n 0, 1) := by decide +kernel
theorem dX1_fadesAsItMay_129 : decode cX1_fadesAsItMay 129 = .ok (.getfield 18, 3) := by decide +kernel
theorem dX1_fadesAsItMay_132 : decode cX1_fadesAsItMay 132 = .ok (.iload 4, 2) := by decide +kernel
theorem dX1_fadesAsItMay_134 : decode cX1_fadesAsItMay 134 = .ok (.iaload, 1) := by decide +kernel
theorem dX1_fadesAsItMay_135 : decode cX1_fadesAsItMay 135 = .ok (.isub, 1) := by decide +kernel
theorem dX1_fadesAsItMay_136 : decode cX1_fadesAsItMay 136 = .ok (.istore 7, 2) := by decide +kernel
theorem dX1_fadesAsItMay_138 : decode cX1_fadesAsItMay 138 = .ok (.iload 6, 2) := by decide +kernel
theorem dX1_fadesAsItMay_140 : decode cX1_fadesAsItMay 140 = .ok (.ifCond .lt 21, 3) := by decide +kernel
theorem dX1_fadesAsItMay_143 : decode cX1_fadesAsItMay 143 = .ok (.iload 6, 2) := by decide +kernel
theorem dX1_fadesAsItMay_145 : decode cX1_fadesAsItMay 145 = .ok (.iload 7, 2) := by decide +kernel
theorem dX1_fadesAsItMay_147 : decode cX1_fadesAsItMay 147 = .ok (.aload_n 0, 1) := by decide +kernel
theorem dX1_fadesAsItMay_148 : decode cX1_fadesAsItMay 148 = .ok (.getfield 50, 3) := by decide +kernel
theorem dX1_fadesAsItMay_151 : decode cX1_fadesAsItMay 151 = .ok (.imul, 1) := by decide +kernel
theorem dX1_fadesAsItMay_152 : decode cX1_fadesAsItMay 152 = .ok (.iconst 5, 1) := by decide +kernel
theorem dX1_fadesAsItMay_153 : decode cX1_fadesAsItMay 153 = .ok (.iadd, 1) := by decide +kernel
theorem dX1_fadesAsItMay_154 : decode cX1_fadesAsItMay 154 = .ok (.if_icmp .gt 7, 3) := by decide +kernel
theorem dX1_fadesAsItMay_157 : decode cX1_fadesAsItMay 157 = .ok (.iconst 1, 1) := by decide +kernel
theorem dX1_fadesAsItMay_158 : decode cX1_fadesAsItMay 158 = .ok (.goto 4, 3) := by decide +kernel
theorem dX1_fadesAsItMay_161 : decode cX1_fadesAsItMay 161 = .ok (.iconst 0, 1) := by decide +kernel
theorem dX1_fadesAsItMay_162 : decode cX1_fadesAsItMay 162 = .ok (.ireturn, 1) := by decide +kernel
theorem dX2_init_0 : decode cX2_init 0 = .ok (.aload_n 0, 1) := by decide +kernel
theorem dX2_init_1 : decode cX2_init 1 = .ok (.invokespecial 3, 3) := by decide +kernel
theorem dX2_init_4 : decode cX2_init 4 = .ok (.aload_n 0, 1) := by decide +kernel
theorem dX2_init_5 : decode cX2_init 5 = .ok (.bipush 60, 2) := by decide +kernel
theorem dX2_init_7 : decode cX2_init 7 = .ok (.newarray .int, 2) := by decide +kernel
theorem dX2_init_9 : decode cX2_init 9 = .ok (.putfield 9, 3) := by decide +kernel
theorem dX2_init_12 : decode cX2_init 12 = .ok (.aload_n 0, 1) := by decide +kernel
theorem dX2_init_13 : decode cX2_init 13 = .ok (.iconst 0, 1) := by decide +kernel
theorem dX2_init_14 : decode cX2_init 14 = .ok (.putfield 15, 3) := by decide +kernel
theorem dX2_init_17 : decode cX2_init 17 = .ok (.aload_n 0, 1) := by decide +kernel
theorem dX2_init_18 : decode cX2_init 18 = .ok (.bipush (-9), 2) := by decide +kernel
theorem dX2_init_20 : decode cX2_init 20 = .ok (.putfield 19, 3) := by decide +kernel
theorem dX2_init_23 : decode cX2_init 23 = .ok (.aload_n 0, 1) := by decide +kernel
theorem dX2_init_24 : decode cX2_init 24 = .ok (.bipush (-9), 2) := by decide +kernel
theorem dX2_init_26 : decode cX2_init 26 = .ok (.putfield 22, 3) := by decide +kernel
theorem dX2_init_29 : decode cX2_init 29 = .ok (.aload_n 0, 1) := by decide +kernel
theorem dX2_init_30 : decode cX2_init 30 = .ok (.iconst 0, 1) := by decide +kernel
theorem dX2_init_31 : decode cX2_init 31 = .ok (.putfield 25, 3) := by decide +kernel
theorem dX2_init_34 : decode cX2_init 34 = .ok (.return_, 1) := by decide +kernel
theorem dX2_replay_0 : decode cX2_replay 0 = .ok (.aload_n 0, 1) := by decide +kernel
theorem dX2_replay_1 : decode cX2_replay 1 = .ok (.iconst 0, 1) := by decide +kernel
theorem dX2_replay_2 : decode cX2_replay 2 = .ok (.putfield 15, 3) := by decide +kernel
theorem dX2_replay_5 : decode cX2_replay 5 = .ok (.aload_n 0, 1) := by decide +kernel
theorem dX2_replay_6 : decode cX2_replay 6 = .ok (.bipush (-9), 2) := by decide +kernel
theorem dX2_replay_8 : decode cX2_replay 8 = .ok (.putfield 19, 3) := by decide +kernel
theorem dX2_replay_11 : decode cX2_replay 11 = .ok (.aload_n 0, 1) := by decide +kernel
theorem dX2_replay_12 : decode cX2_replay 12 = .ok (.bipush (-9), 2) := by decide +kernel
theorem dX2_replay_14 : decode cX2_replay 14 = .ok (.putfield 22, 3) := by decide +kernel
theorem dX2_replay_17 : decode cX2_replay 17 = .ok (.aload_n 0, 1) := by decide +kernel
theorem dX2_replay_18 : decode cX2_replay 18 = .ok (.iconst 0, 1) := by decide +kernel
theorem dX2_replay_19 : decode cX2_replay 19 = .ok (.putfield 25, 3) := by decide +kernel
theorem dX2_replay_22 : decode cX2_replay 22 = .ok (.iconst 0, 1) := by decide +kernel
theorem dX2_replay_23 : decode cX2_replay 23 = .ok (.istore 5, 2) := by decide +kernel
theorem dX2_replay_25 : decode cX2_replay 25 = .ok (.iload 5, 2) := by decide +kernel
theorem dX2_replay_27 : decode cX2_replay 27 = .ok (.aload_n 1, 1) := by decide +kernel
theorem dX2_replay_28 : decode cX2_replay 28 = .ok (.getfield 29, 3) := by decide +kernel
theorem dX2_replay_31 : decode cX2_replay 31 = .ok (.if_icmp .ge 59, 3) := by decide +kernel
theorem dX2_replay_34 : decode cX2_replay 34 = .ok (.aload_n 1, 1) := by decide +kernel
theorem dX2_replay_35 : decode cX2_replay 35 = .ok (.getfield 34, 3) := by decide +kernel
theorem dX2_replay_38 : decode cX2_replay 38 = .ok (.iload 5, 2) := by decide +kernel
theorem dX2_replay_40 : decode cX2_replay 40 = .ok (.iaload, 1) := by decide +kernel
theorem dX2_replay_41 : decode cX2_replay 41 = .ok (.istore 6, 2) := by decide +kernel
theorem dX2_replay_43 : decode cX2_replay 43 = .ok (.aload_n 1, 1) := by decide +kernel
theorem dX2_replay_44 : decode cX2_replay 44 = .ok (.getfield 37, 3) := by decide +kernel
theorem dX2_replay_47 : decode cX2_replay 47 = .ok (.iload 6, 2) := by decide +kernel
theorem dX2_replay_49 : decode cX2_replay 49 = .ok (.iaload, 1) := by decide +kernel
theorem dX2_replay_50 : decode cX2_replay 50 = .ok (.iload_n 3, 1) := by decide +kernel
theorem dX2_replay_51 : decode cX2_replay 51 = .ok (.if_icmp .gt 33, 3) := by decide +kernel
theorem dX2_replay_54 : decode cX2_replay 54 = .ok (.aload_n 1, 1) := by decide +kernel
theorem dX2_replay_55 : decode cX2_replay 55 = .ok (.iload 6, 2) := by decide +kernel
theorem dX2_replay_57 : decode cX2_replay 57 = .ok (.iload_n 2, 1) := by decide +kernel
theorem dX2_replay_58 : decode cX2_replay 58 = .ok (.iload 4, 2) := by decide +kernel
theorem dX2_replay_60 : decode cX2_replay 60 = .ok (.invokevirtual 40, 3) := by decide +kernel
theorem dX2_replay_63 : decode cX2_replay 63 = .ok (.ifCond .eq 21, 3) := by decide +kernel
theorem dX2_replay_66 : decode cX2_replay 66 = .ok (.aload_n 0, 1) := by decide +kernel
theorem dX2_replay_67 : decode cX2_replay 67 = .ok (.aload_n 1, 1) := by decide +kernel
theorem dX2_replay_68 : decode cX2_replay 68 = .ok (.getfield 44, 3) := by decide +kernel
theorem dX2_replay_71 : decode cX2_replay 71 = .ok (.iload 6, 2) := by decide +kernel
theorem dX2_replay_73 : decode cX2_replay 73 = .ok (.iaload, 1) := by decide +kernel
theorem dX2_replay_74 : decode cX2_replay 74 = .ok (.aload_n 1, 1) := by decide +kernel
theorem dX2_replay_75 : decode cX2_replay 75 = .ok (.getfield 47, 3) := by decide +kernel
theorem dX2_replay_78 : decode cX2_replay 78 = .ok (.iload 6, 2) := by decide +kernel
theorem dX2_replay_80 : decode cX2_replay 80 = .ok (.iaload, 1) := by decide +kernel
theorem dX2_replay_81 : decode cX2_replay 81 = .ok (.invokevirtual 50, 3) := by decide +kernel
theorem dX2_replay_84 : decode cX2_replay 84 = .ok (.iinc 5 1, 3) := by decide +kernel
theorem dX2_replay_87 : decode cX2_replay 87 = .ok (.goto (-62), 3) := by decide +kernel
theorem dX2_replay_90 : decode cX2_replay 90 = .ok (.return_, 1) := by decide +kernel
theorem dX2_follow_0 : decode cX2_follow 0 = .ok (.iload_n 1, 1) := by decide +kernel
theorem dX2_follow_1 : decode cX2_follow 1 = .ok (.iconst 3, 1) := by decide +kernel
theorem dX2_follow_2 : decode cX2_follow 2 = .ok (.if_icmp .ne 34, 3) := by decide +kernel
theorem dX2_follow_5 : decode cX2_follow 5 = .ok (.aload_n 0, 1) := by decide +kernel
theorem dX2_follow_6 : decode cX2_follow 6 = .ok (.getfield 9, 3) := by decide +kernel
theorem dX2_follow_9 : decode cX2_follow 9 = .ok (.aload_n 0, 1) := by decide +kernel
theorem dX2_follow_10 : decode cX2_follow 10 = .ok (.getfield 15, 3) := by decide +kernel
theorem dX2_follow_13 : decode cX2_follow 13 = .ok (.aload_n 0, 1) := by decide +kernel
theorem dX2_follow_14 : decode cX2_follow 14 = .ok (.getfield 19, 3) := by decide +kernel
theorem dX2_follow_17 : decode cX2_follow 17 = .ok (.iastore, 1) := by decide +kernel
theorem dX2_follow_18 : decode cX2_follow 18 = .ok (.aload_n 0, 1) := by decide +kernel
theorem dX2_follow_19 : decode cX2_follow 19 = .ok (.dup, 1) := by decide +kernel
theorem dX2_follow_20 : decode cX2_follow 20 = .ok (.getfield 15, 3) := by decide +kernel
theorem dX2_follow_23 : decode cX2_follow 23 = .ok (.iconst 1, 1) := by decide +kernel
theorem dX2_follow_24 : decode cX2_follow 24 = .ok (.iadd, 1) := by decide +kernel
theorem dX2_follow_25 : decode cX2_follow 25 = .ok (.putfield 15, 3) := by decide +kernel
theorem dX2_follow_28 : decode cX2_follow 28 = .ok (.aload_n 0, 1) := by decide +kernel
theorem dX2_follow_29 : decode cX2_follow 29 = .ok (.iload_n 2, 1) := by decide +kernel
theorem dX2_follow_30 : decode cX2_follow 30 = .ok (.putfield 19, 3) := by decide +kernel
theorem dX2_follow_33 : decode cX2_follow 33 = .ok (.goto 82, 3) := by decide +kernel
theorem dX2_follow_36 : decode cX2_follow 36 = .ok (.iload_n 1, 1) := by decide +kernel
theorem dX2_follow_37 : decode cX2_follow 37 = .ok (.iconst 4, 1) := by decide +kernel
theorem dX2_follow_38 : decode cX2_follow 38 = .ok (.if_icmp .ne 36, 3) := by decide +kernel
theorem dX2_follow_41 : decode cX2_follow 41 = .ok (.aload_n 0, 1) := by decide +kernel
theorem dX2_follow_42 : decode cX2_follow 42 = .ok (.getfield 15, 3) := by decide +kernel
theorem dX2_follow_45 : decode cX2_follow 45 = .ok (.ifCond .le 70, 3) := by decide +kernel
theorem dX2_follow_48 : decode cX2_follow 48 = .ok (.aload_n 0, 1) := by decide +kernel
theorem dX2_follow_49 : decode cX2_follow 49 = .ok (.dup, 1) := by decide +kernel
theorem dX2_follow_50 : decode cX2_follow 50 = .ok (.getfield 15, 3) := by decide +kernel
theorem dX2_follow_53 : decode cX2_follow 53 = .ok (.iconst 1, 1) := by decide +kernel
theorem dX2_follow_54 : decode cX2_follow 54 = .ok (.isub, 1) := by decide +kernel
theorem dX2_follow_55 : decode cX2_follow 55 = .ok (.putfield 15, 3) := by decide +kernel
theorem dX2_follow_58 : decode cX2_follow 58 = .ok (.aload_n 0, 1) := by decide +kernel
theorem dX2_follow_59 : decode cX2_follow 59 = .ok (.aload_n 0, 1) := by decide +kernel
theorem dX2_follow_60 : decode cX2_follow 60 = .ok (.getfield 9, 3) := by decide +kernel
theorem dX2_follow_63 : decode cX2_follow 63 = .ok (.aload_n 0, 1) := by decide +kernel
theorem dX2_follow_64 : decode cX2_follow 64 = .ok (.getfield 15, 3) := by decide +kernel
theorem dX2_follow_67 : decode cX2_follow 67 = .ok (.iaload, 1) := by decide +kernel
theorem dX2_follow_68 : decode cX2_follow 68 = .ok (.putfield 19, 3) := by decide +kernel
theorem dX2_follow_71 : decode cX2_follow 71 = .ok (.goto 44, 3) := by decide +kernel
theorem dX2_follow_74 : decode cX2_follow 74 = .ok (.aload_n 0, 1) := by decide +kernel
theorem dX2_follow_75 : decode cX2_follow 75 = .ok (.iconst 0, 1) := by decide +kernel
theorem dX2_follow_76 : decode cX2_follow 76 = .ok (.putfield 15, 3) := by decide +kernel
theorem dX2_follow_79 : decode cX2_follow 79 = .ok (.aload_n 0, 1) := by decide +kernel
theorem dX2_follow_80 : decode cX2_follow 80 = .ok (.iload_n 2, 1) := by decide +kernel
theorem dX2_follow_81 : decode cX2_follow 81 = .ok (.putfield 19, 3) := by decide +kernel
theorem dX2_follow_84 : decode cX2_follow 84 = .ok (.aload_n 0, 1) := by decide +kernel
theorem dX2_follow_85 : decode cX2_follow 85 = .ok (.iload_n 1, 1) := by decide +kernel
theorem dX2_follow_86 : decode cX2_follow 86 = .ok (.iconst 2, 1) := by decide +kernel
theorem dX2_follow_87 : decode cX2_follow 87 = .ok (.if_icmp .ne 7, 3) := by decide +kernel
theorem dX2_follow_90 : decode cX2_follow 90 = .ok (.iconst 1, 1) := by decide +kernel
theorem dX2_follow_91 : decode cX2_follow 91 = .ok (.goto 4, 3) := by decide +kernel
theorem dX2_follow_94 : decode cX2_follow 94 = .ok (.iconst 0, 1) := by decide +kernel
theorem dX2_follow_95 : decode cX2_follow 95 = .ok (.putfield 25, 3) := by decide +kernel
theorem dX2_follow_98 : decode cX2_follow 98 = .ok (.aload_n 0, 1) := by decide +kernel
theorem dX2_follow_99 : decode cX2_follow 99 = .ok (.aload_n 0, 1) := by decide +kernel
theorem dX2_follow_100 : decode cX2_follow 100 = .ok (.getfield 25, 3) := by decide +kernel
theorem dX2_follow_103 : decode cX2_follow 103 = .ok (.ifCond .eq 8, 3) := by decide +kernel
theorem dX2_follow_106 : decode cX2_follow 106 = .ok (.bipush (-9), 2) := by decide +kernel
theorem dX2_follow_108 : decode cX2_follow 108 = .ok (.goto 4, 3) := by decide +kernel
theorem dX2_follow_111 : decode cX2_follow 111 = .ok (.iload_n 2, 1) := by decide +kernel
theorem dX2_follow_112 : decode cX2_follow 112 = .ok (.putfield 22, 3) := by decide +kernel
theorem dX2_follow_115 : decode cX2_follow 115 = .ok (.return_, 1) := by decide +kernel
theorem dX2_heldSince_0 : decode cX2_heldSince 0 = .ok (.aload_n 0, 1) := by decide +kernel
theorem dX2_heldSince_1 : decode cX2_heldSince 1 = .ok (.aload_n 1, 1) := by decide +kernel
theorem dX2_heldSince_2 : decode cX2_heldSince 2 = .ok (.iload_n 2, 1) := by decide +kernel
theorem dX2_heldSince_3 : decode cX2_heldSince 3 = .ok (.iload_n 3, 1) := by decide +kernel
theorem dX2_heldSince_4 : decode cX2_heldSince 4 = .ok (.iload 4, 2) := by decide +kernel
theorem dX2_heldSince_6 : decode cX2_heldSince 6 = .ok (.invokevirtual 54, 3) := by decide +kernel
theorem dX2_heldSince_9 : decode cX2_heldSince 9 = .ok (.aload_n 0, 1) := by decide +kernel
theorem dX2_heldSince_10 : decode cX2_heldSince 10 = .ok (.getfield 19, 3) := by decide +kernel
theorem dX2_heldSince_13 : decode cX2_heldSince 13 = .ok (.istore 5, 2) := by decide +kernel
theorem dX2_heldSince_15 : decode cX2_heldSince 15 = .ok (.iload 4, 2) := by decide +kernel
theorem dX2_heldSince_17 : decode cX2_heldSince 17 = .ok (.istore 6, 2) := by decide +kernel
theorem dX2_heldSince_19 : decode cX2_heldSince 19 = .ok (.iconst 0, 1) := by decide +kernel
theorem dX2_heldSince_20 : decode cX2_heldSince 20 = .ok (.istore 7, 2) := by decide +kernel
theorem dX2_heldSince_22 : decode cX2_heldSince 22 = .ok (.iload 7, 2) := by decide +kernel
theorem dX2_heldSince_24 : decode cX2_heldSince 24 = .ok (.bipush 120, 2) := by decide +kernel
theorem dX2_heldSince_26 : decode cX2_heldSince 26 = .ok (.if_icmp .gt 54, 3) := by decide +kernel
theorem dX2_heldSince_29 : decode cX2_heldSince 29 = .ok (.aload_n 1, 1) := by decide +kernel
theorem dX2_heldSince_30 : decode cX2_heldSince 30 = .ok (.iload_n 2, 1) := by decide +kernel
theorem dX2_heldSince_31 : decode cX2_heldSince 31 = .ok (.iload 6, 2) := by decide +kernel
theorem dX2_heldSince_33 : decode cX2_heldSince 33 = .ok (.invokevirtual 58, 3) := by decide +kernel
theorem dX2_heldSince_36 : decode cX2_heldSince 36 = .ok (.istore 8, 2) := by decide +kernel
theorem dX2_heldSince_38 : decode cX2_heldSince 38 = .ok (.iload 8, 2) := by decide +kernel
theorem dX2_heldSince_40 : decode cX2_heldSince 40 = .ok (.ifCond .ne 5, 3) := by decide +kernel
theorem dX2_heldSince_43 : decode cX2_heldSince 43 = .ok (.iconst 0, 1) := by decide +kernel
theorem dX2_heldSince_44 : decode cX2_heldSince 44 = .ok (.ireturn, 1) := by decide +kernel
theorem dX2_heldSince_45 : decode cX2_heldSince 45 = .ok (.aload_n 0, 1) := by decide +kernel
theorem dX2_heldSince_46 : decode cX2_heldSince 46 = .ok (.aload_n 1, 1) := by decide +kernel
theorem dX2_heldSince_47 : decode cX2_heldSince 47 = .ok (.iload_n 2, 1) := by decide +kernel
theorem dX2_heldSince_48 : decode cX2_heldSince 48 = .ok (.iload_n 3, 1) := by decide +kernel
theorem dX2_heldSince_49 : decode cX2_heldSince 49 = .ok (.iload 8, 2) := by decide +kernel
theorem dX2_heldSince_51 : decode cX2_heldSince 51 = .ok (.iconst 1, 1) := by decide +kernel
theorem dX2_heldSince_52 : decode cX2_heldSince 52 = .ok (.isub, 1) := by decide +kernel
theorem dX2_heldSince_53 : decode cX2_heldSince 53 = .ok (.invokevirtual 54, 3) := by decide +kernel
theorem dX2_heldSince_56 : decode cX2_heldSince 56 = .ok (.aload_n 0, 1) := by decide +kernel
theorem dX2_heldSince_57 : decode cX2_heldSince 57 = .ok (.getfield 19, 3) := by decide +kernel
theorem dX2_heldSince_60 : decode cX2_heldSince 60 = .ok (.iload 5, 2) := by decide +kernel
theorem dX2_heldSince_62 : decode cX2_heldSince 62 = .ok (.if_icmp .eq 6, 3) := by decide +kernel
theorem dX2_heldSince_65 : decode cX2_heldSince 65 = .ok (.iload 8, 2) := by decide +kernel
theorem dX2_heldSince_67 : decode cX2_heldSince 67 = .ok (.ireturn, 1) := by decide +kernel
theorem dX2_heldSince_68 : decode cX2_heldSince 68 = .ok (.iload 8, 2) := by decide +kernel
theorem dX2_heldSince_70 : decode cX2_heldSince 70 = .ok (.iconst 1, 1) := by decide +kernel
theorem dX2_heldSince_71 : decode cX2_heldSince 71 = .ok (.isub, 1) := by decide +kernel
theorem dX2_heldSince_72 : decode cX2_heldSince 72 = .ok (.istore 6, 2) := by decide +kernel
theorem dX2_heldSince_74 : decode cX2_heldSince 74 = .ok (.iinc 7 1, 3) := by decide +kernel
theorem dX2_heldSince_77 : decode cX2_heldSince 77 = .ok (.goto (-55), 3) := by decide +kernel
theorem dX2_heldSince_80 : decode cX2_heldSince 80 = .ok (.iconst 0, 1) := by decide +kernel
theorem dX2_heldSince_81 : decode cX2_heldSince 81 = .ok (.ireturn, 1) := by decide +kernel
theorem dX3_init_0 : decode cX3_init 0 = .ok (.aload_n 0, 1) := by decide +kernel
theorem dX3_init_1 : decode cX3_init 1 = .ok (.invokespecial 3, 3) := by decide +kernel
theorem dX3_init_4 : decode cX3_init 4 = .ok (.aload_n 0, 1) := by decide +kernel
theorem dX3_init_5 : decode cX3_init 5 = .ok (.bipush 100, 2) := by decide +kernel
theorem dX3_init_7 : decode cX3_init 7 = .ok (.newarray .int, 2) := by decide +kernel
theorem dX3_init_9 : decode cX3_init 9 = .ok (.putfield 9, 3) := by decide +kernel
theorem dX3_init_12 : decode cX3_init 12 = .ok (.aload_n 0, 1) := by decide +kernel
theorem dX3_init_13 : decode cX3_init 13 = .ok (.bipush 11, 2) := by decide +kernel
theorem dX3_init_15 : decode cX3_init 15 = .ok (.newarray .int, 2) := by decide +kernel
theorem dX3_init_17 : decode cX3_init 17 = .ok (.putfield 15, 3) := by decide +kernel
theorem dX3_init_20 : decode cX3_init 20 = .ok (.aload_n 0, 1) := by decide +kernel
theorem dX3_init_21 : decode cX3_init 21 = .ok (.sipush 11264, 3) := by decide +kernel
theorem dX3_init_24 : decode cX3_init 24 = .ok (.newarray .int, 2) := by decide +kernel
theorem dX3_init_26 : decode cX3_init 26 = .ok (.putfield 18, 3) := by decide +kernel
theorem dX3_init_29 : decode cX3_init 29 = .ok (.aload_n 0, 1) := by decide +kernel
theorem dX3_init_30 : decode cX3_init 30 = .ok (.sipush 1024, 3) := by decide +kernel
theorem dX3_init_33 : decode cX3_init 33 = .ok (.newarray .int, 2) := by decide +kernel
theorem dX3_init_35 : decode cX3_init 35 = .ok (.putfield 21, 3) := by decide +kernel
theorem dX3_init_38 : decode cX3_init 38 = .ok (.aload_n 0, 1) := by decide +kernel
theorem dX3_init_39 : decode cX3_init 39 = .ok (.sipush 1024, 3) := by decide +kernel
theorem dX3_init_42 : decode cX3_init 42 = .ok (.newarray .int, 2) := by decide +kernel
theorem dX3_init_44 : decode cX3_init 44 = .ok (.putfield 24, 3) := by decide +kernel
theorem dX3_init_47 : decode cX3_init 47 = .ok (.aload_n 0, 1) := by decide +kernel
theorem dX3_init_48 : decode cX3_init 48 = .ok (.iconst 0, 1) := by decide +kernel
theorem dX3_init_49 : decode cX3_init 49 = .ok (.putfield 27, 3) := by decide +kernel
theorem dX3_init_52 : decode cX3_init 52 = .ok (.aload_n 0, 1) := by decide +kernel
theorem dX3_init_53 : decode cX3_init 53 = .ok (.iconst 0, 1) := by decide +kernel
theorem dX3_init_54 : decode cX3_init 54 = .ok (.putfield 31, 3) := by decide +kernel
theorem dX3_init_57 : decode cX3_init 57 = .ok (.return_, 1) := by decide +kernel
theorem dX3_solve_0 : decode cX3_solve 0 = .ok (.aload_n 0, 1) := by decide +kernel
theorem dX3_solve_1 : decode cX3_solve 1 = .ok (.aload_n 1, 1) := by decide +kernel
theorem dX3_solve_2 : decode cX3_solve 2 = .ok (.getfield 34, 3) := by decide +kernel
theorem dX3_solve_5 : decode cX3_solve 5 = .ok (.iload_n 2, 1) := by decide +kernel
theorem dX3_solve_6 : decode cX3_solve 6 = .ok (.iaload, 1) := by decide +kernel
theorem dX3_solve_7 : decode cX3_solve 7 = .ok (.putfield 27, 3) := by decide +kernel
theorem dX3_solve_10 : decode cX3_solve 10 = .ok (.aload_n 0, 1) := by decide +kernel
theorem dX3_solve_11 : decode cX3_solve 11 = .ok (.aload_n 1, 1) := by decide +kernel
theorem dX3_solve_12 : decode cX3_solve 12 = .ok (.getfield 34, 3) := by decide +kernel
theorem dX3_solve_15 : decode cX3_solve 15 = .ok (.iload_n 3, 1) := by decide +kernel
theorem dX3_solve_16 : decode cX3_solve 16 = .ok (.iaload, 1) := by decide +kernel
theorem dX3_solve_17 : decode cX3_solve 17 = .ok (.putfield 31, 3) := by decide +kernel
theorem dX3_solve_20 : decode cX3_solve 20 = .ok (.aload_n 0, 1) := by decide +kernel
theorem dX3_solve_21 : decode cX3_solve 21 = .ok (.aload_n 1, 1) := by decide +kernel
theorem dX3_solve_22 : decode cX3_solve 22 = .ok (.iload_n 2, 1) := by decide +kernel
theorem dX3_solve_23 : decode cX3_solve 23 = .ok (.iload_n 3, 1) := by decide +kernel
theorem dX3_solve_24 : decode cX3_solve 24 = .ok (.invokevirtual 39, 3) := by decide +kernel
theorem dX3_solve_27 : decode cX3_solve 27 = .ok (.aload_n 0, 1) := by decide +kernel
theorem dX3_solve_28 : decode cX3_solve 28 = .ok (.invokevirtual 43, 3) := by decide +kernel
theorem dX3_solve_31 : decode cX3_solve 31 = .ok (.aload 4, 2) := by decide +kernel
theorem dX3_solve_33 : decode cX3_solve 33 = .ok (.aload_n 0, 1) := by decide +kernel
theorem dX3_solve_34 : decode cX3_solve 34 = .ok (.getfield 18, 3) := by decide +kernel
theorem dX3_solve_37 : decode cX3_solve 37 = .ok (.iconst 0, 1) := by decide +kernel
theorem dX3_solve_38 : decode cX3_solve 38 = .ok (.iaload, 1) := by decide +kernel
theorem dX3_solve_39 : decode cX3_solve 39 = .ok (.putfield 46, 3) := by decide +kernel
theorem dX3_solve_42 : decode cX3_solve 42 = .ok (.aload_n 0, 1) := by decide +kernel
theorem dX3_solve_43 : decode cX3_solve 43 = .ok (.aload 4, 2) := by decide +kernel
theorem dX3_solve_45 : decode cX3_solve 45 = .ok (.invokevirtual 51, 3) := by decide +kernel
theorem dX3_solve_48 : decode cX3_solve 48 = .ok (.aload_n 0, 1) := by decide +kernel
theorem dX3_solve_49 : decode cX3_solve 49 = .ok (.aload 4, 2) := by decide +kernel
theorem dX3_solve_51 : decode cX3_solve 51 = .ok (.invokevirtual 55, 3) := by decide +kernel
theorem dX3_solve_54 : decode cX3_solve 54 = .ok (.return_, 1) := by decide +kernel
theorem dX3_readLikes_0 : decode cX3_readLikes 0 = .ok (.aload_n 0, 1) := by decide +kernel
theorem dX3_readLikes_1 : decode cX3_readLikes 1 = .ok (.getfield 15, 3) := by decide +kernel
theorem dX3_readLikes_4 : decode cX3_readLikes 4 = .ok (.iconst 0, 1) := by decide +kernel
theorem dX3_readLikes_5 : decode cX3_readLikes 5 = .ok (.iconst 0, 1) := by decide +kernel
theorem dX3_readLikes_6 : decode cX3_readLikes 6 = .ok (.iastore, 1) := by decide +kernel
theorem dX3_readLikes_7 : decode cX3_readLikes 7 = .ok (.iconst 0, 1) := by decide +kernel
theorem dX3_readLikes_8 : decode cX3_readLikes 8 = .ok (.istore 4, 2) := by decide +kernel
theorem dX3_readLikes_10 : decode cX3_readLikes 10 = .ok (.iload 4, 2) := by decide +kernel
theorem dX3_readLikes_12 : decode cX3_readLikes 12 = .ok (.aload_n 0, 1) := by decide +kernel
theorem dX3_readLikes_13 : decode cX3_readLikes 13 = .ok (.getfield 27, 3) := by decide +kernel
theorem dX3_readLikes_16 : decode cX3_readLikes 16 = .ok (.if_icmp .ge 98, 3) := by decide +kernel
theorem dX3_readLikes_19 : decode cX3_readLikes 19 = .ok (.iconst 0, 1) := by decide +kernel
theorem dX3_readLikes_20 : decode cX3_readLikes 20 = .ok (.istore 5, 2) := by decide +kernel
theorem dX3_readLikes_22 : decode cX3_readLikes 22 = .ok (.iconst 0, 1) := by decide +kernel
theorem dX3_readLikes_23 : decode cX3_readLikes 23 = .ok (.istore 6, 2) := by decide +kernel
theorem dX3_readLikes_25 : decode cX3_readLikes 25 = .ok (.iload 6, 2) := by decide +kernel
theorem dX3_readLikes_27 : decode cX3_readLikes 27 = .ok (.aload_n 0, 1) := by decide +kernel
theorem dX3_readLikes_28 : decode cX3_readLikes 28 = .ok (.getfield 31, 3) := by decide +kernel
theorem dX3_readLikes_31 : decode cX3_readLikes 31 = .ok (.if_icmp .ge 58, 3) := by decide +kernel
theorem dX3_readLikes_34 : decode cX3_readLikes 34 = .ok (.aload_n 1, 1) := by decide +kernel
theorem dX3_readLikes_35 : decode cX3_readLikes 35 = .ok (.iload_n 2, 1) := by decide +kernel
theorem dX3_readLikes_36 : decode cX3_readLikes 36 = .ok (.bipush 10, 2) := by decide +kernel
theorem dX3_readLikes_38 : decode cX3_readLikes 38 = .ok (.imul, 1) := by decide +kernel
theorem dX3_readLikes_39 : decode cX3_readLikes 39 = .ok (.iload 4, 2) := by decide +kernel
theorem dX3_readLikes_41 : decode cX3_readLikes 41 = .ok (.iadd, 1) := by decide +kernel
theorem dX3_readLikes_42 : decode cX3_readLikes 42 = .ok (.iload_n 3, 1) := by decide +kernel
theorem dX3_readLikes_43 : decode cX3_readLikes 43 = .ok (.bipush 10, 2) := by decide +kernel
theorem dX3_readLikes_45 : decode cX3_readLikes 45 = .ok (.imul, 1) := by decide +kernel
theorem dX3_readLikes_46 : decode cX3_readLikes 46 = .ok (.iload 6, 2) := by decide +kernel
theorem dX3_readLikes_48 : decode cX3_readLikes 48 = .ok (.iadd, 1) := by decide +kernel
theorem dX3_readLikes_49 : decode cX3_readLikes 49 = .ok (.invokevirtual 58, 3) := by decide +kernel
theorem dX3_readLikes_52 : decode cX3_readLikes 52 = .ok (.istore 7, 2) := by decide +kernel
theorem dX3_readLikes_54 : decode cX3_readLikes 54 = .ok (.aload_n 0, 1) := by decide +kernel
theorem dX3_readLikes_55 : decode cX3_readLikes 55 = .ok (.getfield 9, 3) := by decide +kernel
theorem dX3_readLikes_58 : decode cX3_readLikes 58 = .ok (.iload 4, 2) := by decide +kernel
theorem dX3_readLikes_60 : decode cX3_readLikes 60 = .ok (.bipush 10, 2) := by decide +kernel
theorem dX3_readLikes_62 : decode cX3_readLikes 62 = .ok (.imul, 1) := by decide +kernel
theorem dX3_readLikes_63 : decode cX3_readLikes 63 = .ok (.iload 6, 2) := by decide +kernel
theorem dX3_readLikes_65 : decode cX3_readLikes 65 = .ok (.iadd, 1) := by decide +kernel
theorem dX3_readLikes_66 : decode cX3_readLikes 66 = .ok (.iload 7, 2) := by decide +kernel
theorem dX3_readLikes_68 : decode cX3_readLikes 68 = .ok (.iastore, 1) := by decide +kernel
theorem dX3_readLikes_69 : decode cX3_readLikes 69 = .ok (.iload 7, 2) := by decide +kernel
theorem dX3_readLikes_71 : decode cX3_readLikes 71 = .ok (.ifCond .le 12, 3) := by decide +kernel
theorem dX3_readLikes_74 : decode cX3_readLikes 74 = .ok (.iload 5, 2) := by decide +kernel
theorem dX3_readLikes_76 : decode cX3_readLikes 76 = .ok (.iconst 1, 1) := by decide +kernel
theorem dX3_readLikes_77 : decode cX3_readLikes 77 = .ok (.iload 6, 2) := by decide +kernel
theorem dX3_readLikes_79 : decode cX3_readLikes 79 = .ok (.ishl, 1) := by decide +kernel
theorem dX3_readLikes_80 : decode cX3_readLikes 80 = .ok (.ior, 1) := by decide +kernel
theorem dX3_readLikes_81 : decode cX3_readLikes 81 = .ok (.istore 5, 2) := by decide +kernel
theorem dX3_readLikes_83 : decode cX3_readLikes 83 = .ok (.iinc 6 1, 3) := by decide +kernel
theorem dX3_readLikes_86 : decode cX3_readLikes 86 = .ok (.goto (-61), 3) := by decide +kernel
theorem dX3_readLikes_89 : decode cX3_readLikes 89 = .ok (.aload_n 0, 1) := by decide +kernel
theorem dX3_readLikes_90 : decode cX3_readLikes 90 = .ok (.getfield 15, 3) := by decide +kernel
theorem dX3_readLikes_93 : decode cX3_readLikes 93 = .ok (.iload 4, 2) := by decide +kernel
theorem dX3_readLikes_95 : decode cX3_readLikes 95 = .ok (.iconst 1, 1) := by decide +kernel
theorem dX3_readLikes_96 : decode cX3_readLikes 96 = .ok (.iadd, 1) := by decide +kernel
theorem dX3_readLikes_97 : decode cX3_readLikes 97 = .ok (.aload_n 0, 1) := by decide +kernel
theorem dX3_readLikes_98 : decode cX3_readLikes 98 = .ok (.getfield 15, 3) := by decide +kernel
theorem dX3_readLikes_101 : decode cX3_readLikes 101 = .ok (.iload 4, 2) := by decide +kernel
theorem dX3_readLikes_103 : decode cX3_readLikes 103 = .ok (.iaload, 1) := by decide +kernel
theorem dX3_readLikes_104 : decode cX3_readLikes 104 = .ok (.iload 5, 2) := by decide +kernel
theorem dX3_readLikes_106 : decode cX3_readLikes 106 = .ok (.ior, 1) := by decide +kernel
theorem dX3_readLikes_107 : decode cX3_readLikes 107 = .ok (.iastore, 1) := by decide +kernel
theorem dX3_readLikes_108 : decode cX3_readLikes 108 = .ok (.iinc 4 1, 3) := by decide +kernel
theorem dX3_readLikes_111 : decode cX3_readLikes 111 = .ok (.goto (-101), 3) := by decide +kernel
theorem dX3_readLikes_114 : decode cX3_readLikes 114 = .ok (.return_, 1) := by decide +kernel
theorem dX3_weighStates_0 : decode cX3_weighStates 0 = .ok (.aload_n 0, 1) := by decide +kernel
theorem dX3_weighStates_1 : decode cX3_weighStates 1 = .ok (.getfield 27, 3) := by decide +kernel
theorem dX3_weighStates_4 : decode cX3_weighStates 4 = .ok (.istore_n 1, 1) := by decide +kernel
theorem dX3_weighStates_5 : decode cX3_weighStates 5 = .ok (.iload_n 1, 1) := by decide +kernel
theorem dX3_weighStates_6 : decode cX3_weighStates 6 = .ok (.ifCond .lt 77, 3) := by decide +kernel
theorem dX3_weighStates_9 : decode cX3_weighStates 9 = .ok (.aload_n 0, 1) := by decide +kernel
theorem dX3_weighStates_10 : decode cX3_weighStates 10 = .ok (.getfield 15, 3) := by decide +kernel
theorem dX3_weighStates_13 : decode cX3_weighStates 13 = .ok (.iload_n 1, 1) := by decide +kernel
theorem dX3_weighStates_14 : decode cX3_weighStates 14 = .ok (.iaload, 1) := by decide +kernel
theorem dX3_weighStates_15 : decode cX3_weighStates 15 = .ok (.istore_n 2, 1) := by decide +kernel
theorem dX3_weighStates_16 : decode cX3_weighStates 16 = .ok (.iload_n 2, 1) := by decide +kernel
theorem dX3_weighStates_17 : decode cX3_weighStates 17 = .ok (.istore_n 3, 1) := by decide +kernel
theorem dX3_weighStates_18 : decode cX3_weighStates 18 = .ok (.iload_n 3, 1) := by decide +kernel
theorem dX3_weighStates_19 : decode cX3_weighStates 19 = .ok (.ifCond .lt 58, 3) := by decide +kernel
theorem dX3_weighStates_22 : decode cX3_weighStates 22 = .ok (.iload_n 3, 1) := by decide +kernel
theorem dX3_weighStates_23 : decode cX3_weighStates 23 = .ok (.invokestatic 62, 3) := by decide +kernel
theorem dX3_weighStates_26 : decode cX3_weighStates 26 = .ok (.iload_n 1, 1) := by decide +kernel
theorem dX3_weighStates_27 : decode cX3_weighStates 27 = .ok (.if_icmp .gt 33, 3) := by decide +kernel
theorem dX3_weighStates_30 : decode cX3_weighStates 30 = .ok (.aload_n 0, 1) := by decide +kernel
theorem dX3_weighStates_31 : decode cX3_weighStates 31 = .ok (.getfield 18, 3) := by decide +kernel
theorem dX3_weighStates_34 : decode cX3_weighStates 34 = .ok (.iload_n 1, 1) := by decide +kernel
theorem dX3_weighStates_35 : decode cX3_weighStates 35 = .ok (.sipush 1024, 3) := by decide +kernel
theorem dX3_weighStates_38 : decode cX3_weighStates 38 = .ok (.imul, 1) := by decide +kernel
theorem dX3_weighStates_39 : decode cX3_weighStates 39 = .ok (.iload_n 3, 1) := by decide +kernel
theorem dX3_weighStates_40 : decode cX3_weighStates 40 = .ok (.iadd, 1) := by decide +kernel
theorem dX3_weighStates_41 : decode cX3_weighStates 41 = .ok (.iload_n 1, 1) := by decide +kernel
theorem dX3_weighStates_42 : decode cX3_weighStates 42 = .ok (.aload_n 0, 1) := by decide +kernel
theorem dX3_weighStates_43 : decode cX3_weighStates 43 = .ok (.getfield 27, 3) := by decide +kernel
theorem dX3_weighStates_46 : decode cX3_weighStates 46 = .ok (.if_icmp .ne 7, 3) := by decide +kernel
