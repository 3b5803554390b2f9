theorem dX8_visitor_37 : decode cX8_visitor 37 = .ok (.iload_n 2, 1) := by decide +kernel
theorem dX8_visitor_38 : decode cX8_visitor 38 = .ok (.iload_n 3, 1) := by decide +kernel
theorem dX8_visitor_39 : decode cX8_visitor 39 = .ok (.if_icmp .ne 9, 3) := by decide +kernel
theorem dX8_visitor_42 : decode cX8_visitor 42 = .ok (.aload_n 0, 1) := by decide +kernel
theorem dX8_visitor_43 : decode cX8_visitor 43 = .ok (.iconst (-1), 1) := by decide +kernel
theorem dX8_visitor_44 : decode cX8_visitor 44 = .ok (.invokevirtual 70, 3) := by decide +kernel
theorem dX8_visitor_47 : decode cX8_visitor 47 = .ok (.ireturn, 1) := by decide +kernel
theorem dX8_visitor_48 : decode cX8_visitor 48 = .ok (.iload 4, 2) := by decide +kernel
theorem dX8_visitor_50 : decode cX8_visitor 50 = .ok (.iconst 1, 1) := by decide +kernel
theorem dX8_visitor_51 : decode cX8_visitor 51 = .ok (.if_icmp .ge 10, 3) := by decide +kernel
theorem dX8_visitor_54 : decode cX8_visitor 54 = .ok (.aload_n 0, 1) := by decide +kernel
theorem dX8_visitor_55 : decode cX8_visitor 55 = .ok (.bipush (-4), 2) := by decide +kernel
theorem dX8_visitor_57 : decode cX8_visitor 57 = .ok (.invokevirtual 70, 3) := by decide +kernel
theorem dX8_visitor_60 : decode cX8_visitor 60 = .ok (.ireturn, 1) := by decide +kernel
theorem dX8_visitor_61 : decode cX8_visitor 61 = .ok (.iload 4, 2) := by decide +kernel
theorem dX8_visitor_63 : decode cX8_visitor 63 = .ok (.bipush 9, 2) := by decide +kernel
theorem dX8_visitor_65 : decode cX8_visitor 65 = .ok (.if_icmp .gt 15, 3) := by decide +kernel
theorem dX8_visitor_68 : decode cX8_visitor 68 = .ok (.aload_n 0, 1) := by decide +kernel
theorem dX8_visitor_69 : decode cX8_visitor 69 = .ok (.getfield 51, 3) := by decide +kernel
theorem dX8_visitor_72 : decode cX8_visitor 72 = .ok (.getfield 204, 3) := by decide +kernel
theorem dX8_visitor_75 : decode cX8_visitor 75 = .ok (.bipush 40, 2) := by decide +kernel
theorem dX8_visitor_77 : decode cX8_visitor 77 = .ok (.if_icmp .lt 10, 3) := by decide +kernel
theorem dX8_visitor_80 : decode cX8_visitor 80 = .ok (.aload_n 0, 1) := by decide +kernel
theorem dX8_visitor_81 : decode cX8_visitor 81 = .ok (.bipush (-6), 2) := by decide +kernel
theorem dX8_visitor_83 : decode cX8_visitor 83 = .ok (.invokevirtual 70, 3) := by decide +kernel
theorem dX8_visitor_86 : decode cX8_visitor 86 = .ok (.ireturn, 1) := by decide +kernel
theorem dX8_visitor_87 : decode cX8_visitor 87 = .ok (.aload_n 0, 1) := by decide +kernel
theorem dX8_visitor_88 : decode cX8_visitor 88 = .ok (.getfield 51, 3) := by decide +kernel
theorem dX8_visitor_91 : decode cX8_visitor 91 = .ok (.iload_n 1, 1) := by decide +kernel
theorem dX8_visitor_92 : decode cX8_visitor 92 = .ok (.iload_n 2, 1) := by decide +kernel
theorem dX8_visitor_93 : decode cX8_visitor 93 = .ok (.iload_n 1, 1) := by decide +kernel
theorem dX8_visitor_94 : decode cX8_visitor 94 = .ok (.invokestatic 201, 3) := by decide +kernel
theorem dX8_visitor_97 : decode cX8_visitor 97 = .ok (.ifCond .eq 7, 3) := by decide +kernel
theorem dX8_visitor_100 : decode cX8_visitor 100 = .ok (.iload_n 3, 1) := by decide +kernel
theorem dX8_visitor_101 : decode cX8_visitor 101 = .ok (.goto 4, 3) := by decide +kernel
theorem dX8_visitor_104 : decode cX8_visitor 104 = .ok (.iload_n 2, 1) := by decide +kernel
theorem dX8_visitor_105 : decode cX8_visitor 105 = .ok (.iload 4, 2) := by decide +kernel
theorem dX8_visitor_107 : decode cX8_visitor 107 = .ok (.invokevirtual 205, 3) := by decide +kernel
theorem dX8_visitor_110 : decode cX8_visitor 110 = .ok (.ireturn, 1) := by decide +kernel
theorem dX8_shelf_0 : decode cX8_shelf 0 = .ok (.iload_n 1, 1) := by decide +kernel
theorem dX8_shelf_1 : decode cX8_shelf 1 = .ok (.invokestatic 208, 3) := by decide +kernel
theorem dX8_shelf_4 : decode cX8_shelf 4 = .ok (.istore_n 2, 1) := by decide +kernel
theorem dX8_shelf_5 : decode cX8_shelf 5 = .ok (.iload_n 2, 1) := by decide +kernel
theorem dX8_shelf_6 : decode cX8_shelf 6 = .ok (.ifCond .eq 9, 3) := by decide +kernel
theorem dX8_shelf_9 : decode cX8_shelf 9 = .ok (.aload_n 0, 1) := by decide +kernel
theorem dX8_shelf_10 : decode cX8_shelf 10 = .ok (.iload_n 2, 1) := by decide +kernel
theorem dX8_shelf_11 : decode cX8_shelf 11 = .ok (.invokevirtual 70, 3) := by decide +kernel
theorem dX8_shelf_14 : decode cX8_shelf 14 = .ok (.ireturn, 1) := by decide +kernel
theorem dX8_shelf_15 : decode cX8_shelf 15 = .ok (.aload_n 0, 1) := by decide +kernel
theorem dX8_shelf_16 : decode cX8_shelf 16 = .ok (.iload_n 1, 1) := by decide +kernel
theorem dX8_shelf_17 : decode cX8_shelf 17 = .ok (.invokevirtual 211, 3) := by decide +kernel
theorem dX8_shelf_20 : decode cX8_shelf 20 = .ok (.getfield 215, 3) := by decide +kernel
theorem dX8_shelf_23 : decode cX8_shelf 23 = .ok (.ireturn, 1) := by decide +kernel
theorem dX8_row_0 : decode cX8_row 0 = .ok (.iload_n 1, 1) := by decide +kernel
theorem dX8_row_1 : decode cX8_row 1 = .ok (.invokestatic 208, 3) := by decide +kernel
theorem dX8_row_4 : decode cX8_row 4 = .ok (.istore_n 3, 1) := by decide +kernel
theorem dX8_row_5 : decode cX8_row 5 = .ok (.iload_n 3, 1) := by decide +kernel
theorem dX8_row_6 : decode cX8_row 6 = .ok (.ifCond .eq 9, 3) := by decide +kernel
theorem dX8_row_9 : decode cX8_row 9 = .ok (.aload_n 0, 1) := by decide +kernel
theorem dX8_row_10 : decode cX8_row 10 = .ok (.iload_n 3, 1) := by decide +kernel
theorem dX8_row_11 : decode cX8_row 11 = .ok (.invokevirtual 70, 3) := by decide +kernel
theorem dX8_row_14 : decode cX8_row 14 = .ok (.ireturn, 1) := by decide +kernel
theorem dX8_row_15 : decode cX8_row 15 = .ok (.aload_n 0, 1) := by decide +kernel
theorem dX8_row_16 : decode cX8_row 16 = .ok (.iload_n 1, 1) := by decide +kernel
theorem dX8_row_17 : decode cX8_row 17 = .ok (.invokevirtual 211, 3) := by decide +kernel
theorem dX8_row_20 : decode cX8_row 20 = .ok (.astore 4, 2) := by decide +kernel
theorem dX8_row_22 : decode cX8_row 22 = .ok (.iload_n 2, 1) := by decide +kernel
theorem dX8_row_23 : decode cX8_row 23 = .ok (.ifCond .lt 12, 3) := by decide +kernel
theorem dX8_row_26 : decode cX8_row 26 = .ok (.iload_n 2, 1) := by decide +kernel
theorem dX8_row_27 : decode cX8_row 27 = .ok (.aload 4, 2) := by decide +kernel
theorem dX8_row_29 : decode cX8_row 29 = .ok (.getfield 218, 3) := by decide +kernel
theorem dX8_row_32 : decode cX8_row 32 = .ok (.if_icmp .lt 8, 3) := by decide +kernel
theorem dX8_row_35 : decode cX8_row 35 = .ok (.bipush (-9), 2) := by decide +kernel
theorem dX8_row_37 : decode cX8_row 37 = .ok (.goto 10, 3) := by decide +kernel
theorem dX8_row_40 : decode cX8_row 40 = .ok (.aload 4, 2) := by decide +kernel
theorem dX8_row_42 : decode cX8_row 42 = .ok (.getfield 221, 3) := by decide +kernel
theorem dX8_row_45 : decode cX8_row 45 = .ok (.iload_n 2, 1) := by decide +kernel
theorem dX8_row_46 : decode cX8_row 46 = .ok (.iaload, 1) := by decide +kernel
theorem dX8_row_47 : decode cX8_row 47 = .ok (.ireturn, 1) := by decide +kernel
theorem dX8_quarrel_0 : decode cX8_quarrel 0 = .ok (.iload_n 1, 1) := by decide +kernel
theorem dX8_quarrel_1 : decode cX8_quarrel 1 = .ok (.invokestatic 208, 3) := by decide +kernel
theorem dX8_quarrel_4 : decode cX8_quarrel 4 = .ok (.istore_n 2, 1) := by decide +kernel
theorem dX8_quarrel_5 : decode cX8_quarrel 5 = .ok (.iload_n 2, 1) := by decide +kernel
theorem dX8_quarrel_6 : decode cX8_quarrel 6 = .ok (.ifCond .eq 9, 3) := by decide +kernel
theorem dX8_quarrel_9 : decode cX8_quarrel 9 = .ok (.aload_n 0, 1) := by decide +kernel
theorem dX8_quarrel_10 : decode cX8_quarrel 10 = .ok (.iload_n 2, 1) := by decide +kernel
theorem dX8_quarrel_11 : decode cX8_quarrel 11 = .ok (.invokevirtual 70, 3) := by decide +kernel
theorem dX8_quarrel_14 : decode cX8_quarrel 14 = .ok (.ireturn, 1) := by decide +kernel
theorem dX8_quarrel_15 : decode cX8_quarrel 15 = .ok (.aload_n 0, 1) := by decide +kernel
theorem dX8_quarrel_16 : decode cX8_quarrel 16 = .ok (.iload_n 1, 1) := by decide +kernel
theorem dX8_quarrel_17 : decode cX8_quarrel 17 = .ok (.invokevirtual 211, 3) := by decide +kernel
theorem dX8_quarrel_20 : decode cX8_quarrel 20 = .ok (.astore_n 3, 1) := by decide +kernel
theorem dX8_quarrel_21 : decode cX8_quarrel 21 = .ok (.aload_n 3, 1) := by decide +kernel
theorem dX8_quarrel_22 : decode cX8_quarrel 22 = .ok (.getfield 224, 3) := by decide +kernel
theorem dX8_quarrel_25 : decode cX8_quarrel 25 = .ok (.aload_n 3, 1) := by decide +kernel
theorem dX8_quarrel_26 : decode cX8_quarrel 26 = .ok (.getfield 215, 3) := by decide +kernel
theorem dX8_quarrel_29 : decode cX8_quarrel 29 = .ok (.isub, 1) := by decide +kernel
theorem dX8_quarrel_30 : decode cX8_quarrel 30 = .ok (.ireturn, 1) := by decide +kernel
theorem dX8_part_0 : decode cX8_part 0 = .ok (.iload_n 1, 1) := by decide +kernel
theorem dX8_part_1 : decode cX8_part 1 = .ok (.ifCond .lt 9, 3) := by decide +kernel
theorem dX8_part_4 : decode cX8_part 4 = .ok (.iload_n 1, 1) := by decide +kernel
theorem dX8_part_5 : decode cX8_part 5 = .ok (.bipush 10, 2) := by decide +kernel
theorem dX8_part_7 : decode cX8_part 7 = .ok (.if_icmp .lt 9, 3) := by decide +kernel
theorem dX8_part_10 : decode cX8_part 10 = .ok (.aload_n 0, 1) := by decide +kernel
theorem dX8_part_11 : decode cX8_part 11 = .ok (.iconst (-1), 1) := by decide +kernel
theorem dX8_part_12 : decode cX8_part 12 = .ok (.invokevirtual 70, 3) := by decide +kernel
theorem dX8_part_15 : decode cX8_part 15 = .ok (.ireturn, 1) := by decide +kernel
theorem dX8_part_16 : decode cX8_part 16 = .ok (.iload_n 2, 1) := by decide +kernel
theorem dX8_part_17 : decode cX8_part 17 = .ok (.ifCond .ge 10, 3) := by decide +kernel
theorem dX8_part_20 : decode cX8_part 20 = .ok (.aload_n 0, 1) := by decide +kernel
theorem dX8_part_21 : decode cX8_part 21 = .ok (.bipush (-4), 2) := by decide +kernel
theorem dX8_part_23 : decode cX8_part 23 = .ok (.invokevirtual 70, 3) := by decide +kernel
theorem dX8_part_26 : decode cX8_part 26 = .ok (.ireturn, 1) := by decide +kernel
theorem dX8_part_27 : decode cX8_part 27 = .ok (.iload_n 2, 1) := by decide +kernel
theorem dX8_part_28 : decode cX8_part 28 = .ok (.bipush 6, 2) := by decide +kernel
theorem dX8_part_30 : decode cX8_part 30 = .ok (.if_icmp .lt 10, 3) := by decide +kernel
theorem dX8_part_33 : decode cX8_part 33 = .ok (.aload_n 0, 1) := by decide +kernel
theorem dX8_part_34 : decode cX8_part 34 = .ok (.bipush (-6), 2) := by decide +kernel
theorem dX8_part_36 : decode cX8_part 36 = .ok (.invokevirtual 70, 3) := by decide +kernel
theorem dX8_part_39 : decode cX8_part 39 = .ok (.ireturn, 1) := by decide +kernel
theorem dX8_part_40 : decode cX8_part 40 = .ok (.aload_n 0, 1) := by decide +kernel
theorem dX8_part_41 : decode cX8_part 41 = .ok (.getfield 58, 3) := by decide +kernel
theorem dX8_part_44 : decode cX8_part 44 = .ok (.iload_n 1, 1) := by decide +kernel
theorem dX8_part_45 : decode cX8_part 45 = .ok (.iload_n 2, 1) := by decide +kernel
theorem dX8_part_46 : decode cX8_part 46 = .ok (.invokevirtual 227, 3) := by decide +kernel
theorem dX8_part_49 : decode cX8_part 49 = .ok (.ireturn, 1) := by decide +kernel
theorem dX8_clash_0 : decode cX8_clash 0 = .ok (.iload_n 1, 1) := by decide +kernel
theorem dX8_clash_1 : decode cX8_clash 1 = .ok (.ifCond .lt 7, 3) := by decide +kernel
theorem dX8_clash_4 : decode cX8_clash 4 = .ok (.iload_n 2, 1) := by decide +kernel
theorem dX8_clash_5 : decode cX8_clash 5 = .ok (.ifCond .ge 10, 3) := by decide +kernel
theorem dX8_clash_8 : decode cX8_clash 8 = .ok (.aload_n 0, 1) := by decide +kernel
theorem dX8_clash_9 : decode cX8_clash 9 = .ok (.bipush (-4), 2) := by decide +kernel
theorem dX8_clash_11 : decode cX8_clash 11 = .ok (.invokevirtual 70, 3) := by decide +kernel
theorem dX8_clash_14 : decode cX8_clash 14 = .ok (.ireturn, 1) := by decide +kernel
theorem dX8_clash_15 : decode cX8_clash 15 = .ok (.iload_n 1, 1) := by decide +kernel
theorem dX8_clash_16 : decode cX8_clash 16 = .ok (.bipush 6, 2) := by decide +kernel
theorem dX8_clash_18 : decode cX8_clash 18 = .ok (.if_icmp .ge 9, 3) := by decide +kernel
theorem dX8_clash_21 : decode cX8_clash 21 = .ok (.iload_n 2, 1) := by decide +kernel
theorem dX8_clash_22 : decode cX8_clash 22 = .ok (.bipush 6, 2) := by decide +kernel
theorem dX8_clash_24 : decode cX8_clash 24 = .ok (.if_icmp .lt 10, 3) := by decide +kernel
theorem dX8_clash_27 : decode cX8_clash 27 = .ok (.aload_n 0, 1) := by decide +kernel
theorem dX8_clash_28 : decode cX8_clash 28 = .ok (.bipush (-6), 2) := by decide +kernel
theorem dX8_clash_30 : decode cX8_clash 30 = .ok (.invokevirtual 70, 3) := by decide +kernel
theorem dX8_clash_33 : decode cX8_clash 33 = .ok (.ireturn, 1) := by decide +kernel
theorem dX8_clash_34 : decode cX8_clash 34 = .ok (.iload_n 1, 1) := by decide +kernel
theorem dX8_clash_35 : decode cX8_clash 35 = .ok (.iload_n 2, 1) := by decide +kernel
theorem dX8_clash_36 : decode cX8_clash 36 = .ok (.if_icmp .ne 10, 3) := by decide +kernel
theorem dX8_clash_39 : decode cX8_clash 39 = .ok (.aload_n 0, 1) := by decide +kernel
theorem dX8_clash_40 : decode cX8_clash 40 = .ok (.bipush (-3), 2) := by decide +kernel
theorem dX8_clash_42 : decode cX8_clash 42 = .ok (.invokevirtual 70, 3) := by decide +kernel
theorem dX8_clash_45 : decode cX8_clash 45 = .ok (.ireturn, 1) := by decide +kernel
theorem dX8_clash_46 : decode cX8_clash 46 = .ok (.aload_n 0, 1) := by decide +kernel
theorem dX8_clash_47 : decode cX8_clash 47 = .ok (.getfield 58, 3) := by decide +kernel
theorem dX8_clash_50 : decode cX8_clash 50 = .ok (.iload_n 1, 1) := by decide +kernel
theorem dX8_clash_51 : decode cX8_clash 51 = .ok (.iload_n 2, 1) := by decide +kernel
theorem dX8_clash_52 : decode cX8_clash 52 = .ok (.iload_n 3, 1) := by decide +kernel
theorem dX8_clash_53 : decode cX8_clash 53 = .ok (.invokevirtual 230, 3) := by decide +kernel
theorem dX8_clash_56 : decode cX8_clash 56 = .ok (.ifCond .eq 7, 3) := by decide +kernel
theorem dX8_clash_59 : decode cX8_clash 59 = .ok (.iconst 1, 1) := by decide +kernel
theorem dX8_clash_60 : decode cX8_clash 60 = .ok (.goto 4, 3) := by decide +kernel
theorem dX8_clash_63 : decode cX8_clash 63 = .ok (.iconst 0, 1) := by decide +kernel
theorem dX8_clash_64 : decode cX8_clash 64 = .ok (.ireturn, 1) := by decide +kernel
theorem dX8_fake_0 : decode cX8_fake 0 = .ok (.iload_n 1, 1) := by decide +kernel
theorem dX8_fake_1 : decode cX8_fake 1 = .ok (.bipush 10, 2) := by decide +kernel
theorem dX8_fake_3 : decode cX8_fake 3 = .ok (.invokestatic 87, 3) := by decide +kernel
theorem dX8_fake_6 : decode cX8_fake 6 = .ok (.ifCond .eq 9, 3) := by decide +kernel
theorem dX8_fake_9 : decode cX8_fake 9 = .ok (.aload_n 0, 1) := by decide +kernel
theorem dX8_fake_10 : decode cX8_fake 10 = .ok (.iconst (-1), 1) := by decide +kernel
theorem dX8_fake_11 : decode cX8_fake 11 = .ok (.invokevirtual 70, 3) := by decide +kernel
theorem dX8_fake_14 : decode cX8_fake 14 = .ok (.ireturn, 1) := by decide +kernel
theorem dX8_fake_15 : decode cX8_fake 15 = .ok (.aload_n 0, 1) := by decide +kernel
theorem dX8_fake_16 : decode cX8_fake 16 = .ok (.getfield 58, 3) := by decide +kernel
theorem dX8_fake_19 : decode cX8_fake 19 = .ok (.iload_n 1, 1) := by decide +kernel
theorem dX8_fake_20 : decode cX8_fake 20 = .ok (.invokevirtual 234, 3) := by decide +kernel
theorem dX8_fake_23 : decode cX8_fake 23 = .ok (.ifCond .eq 7, 3) := by decide +kernel
theorem dX8_fake_26 : decode cX8_fake 26 = .ok (.iconst 1, 1) := by decide +kernel
theorem dX8_fake_27 : decode cX8_fake 27 = .ok (.goto 4, 3) := by decide +kernel
theorem dX8_fake_30 : decode cX8_fake 30 = .ok (.iconst 0, 1) := by decide +kernel
theorem dX8_fake_31 : decode cX8_fake 31 = .ok (.ireturn, 1) := by decide +kernel
theorem dX8_least_0 : decode cX8_least 0 = .ok (.iload_n 1, 1) := by decide +kernel
theorem dX8_least_1 : decode cX8_least 1 = .ok (.bipush 10, 2) := by decide +kernel
theorem dX8_least_3 : decode cX8_least 3 = .ok (.invokestatic 87, 3) := by decide +kernel
theorem dX8_least_6 : decode cX8_least 6 = .ok (.ifCond .eq 9, 3) := by decide +kernel
theorem dX8_least_9 : decode cX8_least 9 = .ok (.aload_n 0, 1) := by decide +kernel
theorem dX8_least_10 : decode cX8_least 10 = .ok (.iconst (-1), 1) := by decide +kernel
theorem dX8_least_11 : decode cX8_least 11 = .ok (.invokevirtual 70, 3) := by decide +kernel
theorem dX8_least_14 : decode cX8_least 14 = .ok (.ireturn, 1) := by decide +kernel
theorem dX8_least_15 : decode cX8_least 15 = .ok (.aload_n 0, 1) := by decide +kernel
theorem dX8_least_16 : decode cX8_least 16 = .ok (.getfield 58, 3) := by decide +kernel
theorem dX8_least_19 : decode cX8_least 19 = .ok (.iload_n 1, 1) := by decide +kernel
theorem dX8_least_20 : decode cX8_least 20 = .ok (.invokevirtual 237, 3) := by decide +kernel
theorem dX8_least_23 : decode cX8_least 23 = .ok (.ireturn, 1) := by decide +kernel
theorem dX8_count_0 : decode cX8_count 0 = .ok (.iload_n 1, 1) := by decide +kernel
theorem dX8_count_1 : decode cX8_count 1 = .ok (.tableswitch 121 0 9 #[55, 55, 55, 55, 65, 73, 81, 89, 97, 105], 55) := by decide +kernel
theorem dX8_count_56 : decode cX8_count 56 = .ok (.aload_n 0, 1) := by decide +kernel
theorem dX8_count_57 : decode cX8_count 57 = .ok (.getfield 20, 3) := by decide +kernel
theorem dX8_count_60 : decode cX8_count 60 = .ok (.getfield 91, 3) := by decide +kernel
theorem dX8_count_63 : decode cX8_count 63 = .ok (.iload_n 1, 1) := by decide +kernel
theorem dX8_count_64 : decode cX8_count 64 = .ok (.iaload, 1) := by decide +kernel
theorem dX8_count_65 : decode cX8_count 65 = .ok (.ireturn, 1) := by decide +kernel
theorem dX8_count_66 : decode cX8_count 66 = .ok (.aload_n 0, 1) := by decide +kernel
theorem dX8_count_67 : decode cX8_count 67 = .ok (.getfield 34, 3) := by decide +kernel
theorem dX8_count_70 : decode cX8_count 70 = .ok (.getfield 160, 3) := by decide +kernel
theorem dX8_count_73 : decode cX8_count 73 = .ok (.ireturn, 1) := by decide +kernel
theorem dX8_count_74 : decode cX8_count 74 = .ok (.aload_n 0, 1) := by decide +kernel
theorem dX8_count_75 : decode cX8_count 75 = .ok (.getfield 38, 3) := by decide +kernel
theorem dX8_count_78 : decode cX8_count 78 = .ok (.getfield 160, 3) := by decide +kernel
theorem dX8_count_81 : decode cX8_count 81 = .ok (.ireturn, 1) := by decide +kernel
theorem dX8_count_82 : decode cX8_count 82 = .ok (.aload_n 0, 1) := by decide +kernel
theorem dX8_count_83 : decode cX8_count 83 = .ok (.getfield 51, 3) := by decide +kernel
theorem dX8_count_86 : decode cX8_count 86 = .ok (.getfield 204, 3) := by decide +kernel
theorem dX8_count_89 : decode cX8_count 89 = .ok (.ireturn, 1) := by decide +kernel
theorem dX8_count_90 : decode cX8_count 90 = .ok (.aload_n 0, 1) := by decide +kernel
theorem dX8_count_91 : decode cX8_count 91 = .ok (.getfield 20, 3) := by decide +kernel
theorem dX8_count_94 : decode cX8_count 94 = .ok (.getfield 113, 3) := by decide +kernel
theorem dX8_count_97 : decode cX8_count 97 = .ok (.ireturn, 1) := by decide +kernel
theorem dX8_count_98 : decode cX8_count 98 = .ok (.aload_n 0, 1) := by decide +kernel
theorem dX8_count_99 : decode cX8_count 99 = .ok (.getfield 58, 3) := by decide +kernel
theorem dX8_count_102 : decode cX8_count 102 = .ok (.getfield 240, 3) := by decide +kernel
theorem dX8_count_105 : decode cX8_count 105 = .ok (.ireturn, 1) := by decide +kernel
theorem dX8_count_106 : decode cX8_count 106 = .ok (.aload_n 0, 1) := by decide +kernel
theorem dX8_count_107 : decode cX8_count 107 = .ok (.getfield 34, 3) := by decide +kernel
theorem dX8_count_110 : decode cX8_count 110 = .ok (.getfield 243, 3) := by decide +kernel
theorem dX8_count_113 : decode cX8_count 113 = .ok (.aload_n 0, 1) := by decide +kernel
theorem dX8_count_114 : decode cX8_count 114 = .ok (.getfield 38, 3) := by decide +kernel
theorem dX8_count_117 : decode cX8_count 117 = .ok (.getfield 243, 3) := by decide +kernel
theorem dX8_count_120 : decode cX8_count 120 = .ok (.iadd, 1) := by decide +kernel
theorem dX8_count_121 : decode cX8_count 121 = .ok (.ireturn, 1) := by decide +kernel
theorem dX8_count_122 : decode cX8_count 122 = .ok (.iload_n 1, 1) := by decide +kernel
theorem dX8_count_123 : decode cX8_count 123 = .ok (.bipush 10, 2) := by decide +kernel
theorem dX8_count_125 : decode cX8_count 125 = .ok (.if_icmp .le 21, 3) := by decide +kernel
theorem dX8_count_128 : decode cX8_count 128 = .ok (.iload_n 1, 1) := by decide +kernel
theorem dX8_count_129 : decode cX8_count 129 = .ok (.bipush 16, 2) := by decide +kernel
theorem dX8_count_131 : decode cX8_count 131 = .ok (.if_icmp .gt 15, 3) := by decide +kernel
theorem dX8_count_134 : decode cX8_count 134 = .ok (.aload_n 0, 1) := by decide +kernel
theorem dX8_count_135 : decode cX8_count 135 = .ok (.getfield 62, 3) := by decide +kernel
theorem dX8_count_138 : decode cX8_count 138 = .ok (.iload_n 1, 1) := by decide +kernel
theorem dX8_count_139 : decode cX8_count 139 = .ok (.bipush 10, 2) := by decide +kernel
theorem dX8_count_141 : decode cX8_count 141 = .ok (.isub, 1) := by decide +kernel
theorem dX8_count_142 : decode cX8_count 142 = .ok (.iaload, 1) := by decide +kernel
theorem dX8_count_143 : decode cX8_count 143 = .ok (.goto 5, 3) := by decide +kernel
theorem dX8_count_146 : decode cX8_count 146 = .ok (.bipush (-9), 2) := by decide +kernel
theorem dX8_count_148 : decode cX8_count 148 = .ok (.ireturn, 1) := by decide +kernel
theorem dX8_refuse_0 : decode cX8_refuse 0 = .ok (.aload_n 0, 1) := by decide +kernel
theorem dX8_refuse_1 : decode cX8_refuse 1 = .ok (.getfield 62, 3) := by decide +kernel
theorem dX8_refuse_4 : decode cX8_refuse 4 = .ok (.iload_n 1, 1) := by decide +kernel
theorem dX8_refuse_5 : decode cX8_refuse 5 = .ok (.ineg, 1) := by decide +kernel
theorem dX8_refuse_6 : decode cX8_refuse 6 = .ok (.dup2, 1) := by decide +kernel
theorem dX8_refuse_7 : decode cX8_refuse 7 = .ok (.iaload, 1) := by decide +kernel
theorem dX8_refuse_8 : decode cX8_refuse 8 = .ok (.iconst 1, 1) := by decide +kernel
theorem dX8_refuse_9 : decode cX8_refuse 9 = .ok (.iadd, 1) := by decide +kernel
theorem dX8_refuse_10 : decode cX8_refuse 10 = .ok (.iastore, 1) := by decide +kernel
theorem dX8_refuse_11 : decode cX8_refuse 11 = .ok (.iload_n 1, 1) := by decide +kernel
theorem dX8_refuse_12 : decode cX8_refuse 12 = .ok (.ireturn, 1) := by decide +kernel
theorem dX8_isWord_0 : decode cX8_isWord 0 = .ok (.iload_n 0, 1) := by decide +kernel
theorem dX8_isWord_1 : decode cX8_isWord 1 = .ok (.ifCond .lt 13, 3) := by decide +kernel
theorem dX8_isWord_4 : decode cX8_isWord 4 = .ok (.iload_n 0, 1) := by decide +kernel
theorem dX8_isWord_5 : decode cX8_isWord 5 = .ok (.bipush 20, 2) := by decide +kernel
theorem dX8_isWord_7 : decode cX8_isWord 7 = .ok (.if_icmp .ge 7, 3) := by decide +kernel
theorem dX8_isWord_10 : decode cX8_isWord 10 = .ok (.iconst 1, 1) := by decide +kernel
theorem dX8_isWord_11 : decode cX8_isWord 11 = .ok (.goto 4, 3) := by decide +kernel
theorem dX8_isWord_14 : decode cX8_isWord 14 = .ok (.iconst 0, 1) := by decide +kernel
theorem dX8_isWord_15 : decode cX8_isWord 15 = .ok (.ireturn, 1) := by decide +kernel
theorem dX8_isCatalogue_0 : decode cX8_isCatalogue 0 = .ok (.iload_n 0, 1) := by decide +kernel
theorem dX8_isCatalogue_1 : decode cX8_isCatalogue 1 = .ok (.ifCond .lt 12, 3) := by decide +kernel
theorem dX8_isCatalogue_4 : decode cX8_isCatalogue 4 = .ok (.iload_n 0, 1) := by decide +kernel
theorem dX8_isCatalogue_5 : decode cX8_isCatalogue 5 = .ok (.iconst 4, 1) := by decide +kernel
theorem dX8_isCatalogue_6 : decode cX8_isCatalogue 6 = .ok (.if_icmp .ge 7, 3) := by decide +kernel
theorem dX8_isCatalogue_9 : decode cX8_isCatalogue 9 = .ok (.iconst 1, 1) := by decide +kernel
theorem dX8_isCatalogue_10 : decode cX8_isCatalogue 10 = .ok (.goto 4, 3) := by decide +kernel
theorem dX8_isCatalogue_13 : decode cX8_isCatalogue 13 = .ok (.iconst 0, 1) := by decide +kernel
theorem dX8_isCatalogue_14 : decode cX8_isCatalogue 14 = .ok (.ireturn, 1) := by decide +kernel
theorem dX8_areTwo_0 : decode cX8_areTwo 0 = .ok (.iload_n 0, 1) := by decide +kernel
theorem dX8_areTwo_1 : decode cX8_areTwo 1 = .ok (.invokestatic 81, 3) := by decide +kernel
theorem dX8_areTwo_4 : decode cX8_areTwo 4 = .ok (.ifCond .eq 19, 3) := by decide +kernel
theorem dX8_areTwo_7 : decode cX8_areTwo 7 = .ok (.iload_n 1, 1) := by decide +kernel
theorem dX8_areTwo_8 : decode cX8_areTwo 8 = .ok (.invokestatic 81, 3) := by decide +kernel
theorem dX8_areTwo_11 : decode cX8_areTwo 11 = .ok (.ifCond .eq 12, 3) := by decide +kernel
theorem dX8_areTwo_14 : decode cX8_areTwo 14 = .ok (.iload_n 0, 1) := by decide +kernel
theorem dX8_areTwo_15 : decode cX8_areTwo 15 = .ok (.iload_n 1, 1) := by decide +kernel
theorem dX8_areTwo_16 : decode cX8_areTwo 16 = .ok (.if_icmp .eq 7, 3) := by decide +kernel
theorem dX8_areTwo_19 : decode cX8_areTwo 19 = .ok (.iconst 1, 1) := by decide +kernel
theorem dX8_areTwo_20 : decode cX8_areTwo 20 = .ok (.goto 4, 3) := by decide +kernel
theorem dX8_areTwo_23 : decode cX8_areTwo 23 = .ok (.iconst 0, 1) := by decide +kernel
theorem dX8_areTwo_24 : decode cX8_areTwo 24 = .ok (.ireturn, 1) := by decide +kernel
theorem dX8_isThing_0 : decode cX8_isThing 0 = .ok (.iload_n 0, 1) := by decide +kernel
theorem dX8_isThing_1 : decode cX8_isThing 1 = .ok (.ifCond .lt 13, 3) := by decide +kernel
theorem dX8_isThing_4 : decode cX8_isThing 4 = .ok (.iload_n 0, 1) := by decide +kernel
theorem dX8_isThing_5 : decode cX8_isThing 5 = .ok (.bipush 12, 2) := by decide +kernel
theorem dX8_isThing_7 : decode cX8_isThing 7 = .ok (.if_icmp .ge 7, 3) := by decide +kernel
theorem dX8_isThing_10 : decode cX8_isThing 10 = .ok (.iconst 1, 1) := by decide +kernel
theorem dX8_isThing_11 : decode cX8_isThing 11 = .ok (.goto 4, 3) := by decide +kernel
theorem dX8_isThing_14 : decode cX8_isThing 14 = .ok (.iconst 0, 1) := by decide +kernel
theorem dX8_isThing_15 : decode cX8_isThing 15 = .ok (.ireturn, 1) := by decide +kernel
theorem dX8_needsTwo_0 : decode cX8_needsTwo 0 = .ok (.iload_n 0, 1) := by decide +kernel
theorem dX8_needsTwo_1 : decode cX8_needsTwo 1 = .ok (.ifCond .eq 8, 3) := by decide +kernel
theorem dX8_needsTwo_4 : decode cX8_needsTwo 4 = .ok (.iload_n 0, 1) := by decide +kernel
theorem dX8_needsTwo_5 : decode cX8_needsTwo 5 = .ok (.iconst 1, 1) := by decide +kernel
theorem dX8_needsTwo_6 : decode cX8_needsTwo 6 = .ok (.if_icmp .ne 7, 3) := by decide +kernel
theorem dX8_needsTwo_9 : decode cX8_needsTwo 9 = .ok (.iconst 1, 1) := by decide +kernel
theorem dX8_needsTwo_10 : decode cX8_needsTwo 10 = .ok (.goto 4, 3) := by decide +kernel
theorem dX8_needsTwo_13 : decode cX8_needsTwo 13 = .ok (.iconst 0, 1) := by decide +kernel
theorem dX8_needsTwo_14 : decode cX8_needsTwo 14 = .ok (.ireturn, 1) := by decide +kernel
theorem dX8_hasOtherBits_0 : decode cX8_hasOtherBits 0 = .ok (.iload_n 0, 1) := by decide +kernel
theorem dX8_hasOtherBits_1 : decode cX8_hasOtherBits 1 = .ok (.ifCond .lt 10, 3) := by decide +kernel
theorem dX8_hasOtherBits_4 : decode cX8_hasOtherBits 4 = .ok (.iload_n 0, 1) := by decide +kernel
theorem dX8_hasOtherBits_5 : decode cX8_hasOtherBits 5 = .ok (.iconst 1, 1) := by decide +kernel
theorem dX8_hasOtherBits_6 : decode cX8_hasOtherBits 6 = .ok (.iload_n 1, 1) := by decide +kernel
theorem dX8_hasOtherBits_7 : decode cX8_hasOtherBits 7 = .ok (.ishl, 1) := by decide +kernel
theorem dX8_hasOtherBits_8 : decode cX8_hasOtherBits 8 = .ok (.if_icmp .lt 7, 3) := by decide +kernel
theorem dX8_hasOtherBits_11 : decode cX8_hasOtherBits 11 = .ok (.iconst 1, 1) := by decide +kernel
theorem dX8_hasOtherBits_12 : decode cX8_hasOtherBits 12 = .ok (.goto 4, 3) := by decide +kernel
theorem dX8_hasOtherBits_15 : decode cX8_hasOtherBits 15 = .ok (.iconst 0, 1) := by decide +kernel
theorem dX8_hasOtherBits_16 : decode cX8_hasOtherBits 16 = .ok (.ireturn, 1) := by decide +kernel
theorem dX8_isEntry_0 : decode cX8_isEntry 0 = .ok (.iload_n 1, 1) := by decide +kernel
theorem dX8_isEntry_1 : decode cX8_isEntry 1 = .ok (.invokestatic 81, 3) := by decide +kernel
theorem dX8_isEntry_4 : decode cX8_isEntry 4 = .ok (.ifCond .eq 24, 3) := by decide +kernel
theorem dX8_isEntry_7 : decode cX8_isEntry 7 = .ok (.iload_n 2, 1) := by decide +kernel
theorem dX8_isEntry_8 : decode cX8_isEntry 8 = .ok (.ifCond .lt 20, 3) := by decide +kernel
theorem dX8_isEntry_11 : decode cX8_isEntry 11 = .ok (.iload_n 2, 1) := by decide +kernel
theorem dX8_isEntry_12 : decode cX8_isEntry 12 = .ok (.aload_n 0, 1) := by decide +kernel
theorem dX8_isEntry_13 : decode cX8_isEntry 13 = .ok (.getfield 20, 3) := by decide +kernel
theorem dX8_isEntry_16 : decode cX8_isEntry 16 = .ok (.getfield 91, 3) := by decide +kernel
theorem dX8_isEntry_19 : decode cX8_isEntry 19 = .ok (.iload_n 1, 1) := by decide +kernel
theorem dX8_isEntry_20 : decode cX8_isEntry 20 = .ok (.iaload, 1) := by decide +kernel
theorem dX8_isEntry_21 : decode cX8_isEntry 21 = .ok (.if_icmp .ge 7, 3) := by decide +kernel
theorem dX8_isEntry_24 : decode cX8_isEntry 24 = .ok (.iconst 1, 1) := by decide +kernel
theorem dX8_isEntry_25 : decode cX8_isEntry 25 = .ok (.goto 4, 3) := by decide +kernel
theorem dX8_isEntry_28 : decode cX8_isEntry 28 = .ok (.iconst 0, 1) := by decide +kernel
theorem dX8_isEntry_29 : decode cX8_isEntry 29 = .ok (.ireturn, 1) := by decide +kernel
theorem dX8_daysRefusal_0 : decode cX8_daysRefusal 0 = .ok (.iload_n 0, 1) := by decide +kernel
theorem dX8_daysRefusal_1 : decode cX8_daysRefusal 1 = .ok (.ifCond .lt 7, 3) := by decide +kernel
theorem dX8_daysRefusal_4 : decode cX8_daysRefusal 4 = .ok (.iload_n 1, 1) := by decide +kernel
theorem dX8_daysRefusal_5 : decode cX8_daysRefusal 5 = .ok (.ifCond .ge 6, 3) := by decide +kernel
theorem dX8_daysRefusal_8 : decode cX8_daysRefusal 8 = .ok (.bipush (-4), 2) := by decide +kernel
theorem dX8_daysRefusal_10 : decode cX8_daysRefusal 10 = .ok (.ireturn, 1) := by decide +kernel
theorem dX8_daysRefusal_11 : decode cX8_daysRefusal 11 = .ok (.iload_n 0, 1) := by decide +kernel
theorem dX8_daysRefusal_12 : decode cX8_daysRefusal 12 = .ok (.ldc 172, 2) := by decide +kernel
theorem dX8_daysRefusal_14 : decode cX8_daysRefusal 14 = .ok (.if_icmp .gt 9, 3) := by decide +kernel
theorem dX8_daysRefusal_17 : decode cX8_daysRefusal 17 = .ok (.iload_n 1, 1) := by decide +kernel
theorem dX8_daysRefusal_18 : decode cX8_daysRefusal 18 = .ok (.ldc 172, 2) := by decide +kernel
theorem dX8_daysRefusal_20 : decode cX8_daysRefusal 20 = .ok (.if_icmp .le 8, 3) := by decide +kernel
theorem dX8_daysRefusal_23 : decode cX8_daysRefusal 23 = .ok (.bipush (-6), 2) := by decide +kernel
theorem dX8_daysRefusal_25 : decode cX8_daysRefusal 25 = .ok (.goto 4, 3) := by decide +kernel
theorem dX8_daysRefusal_28 : decode cX8_daysRefusal 28 = .ok (.iconst 0, 1) := by decide +kernel
theorem dX8_daysRefusal_29 : decode cX8_daysRefusal 29 = .ok (.ireturn, 1) := by decide +kernel
theorem dX8_shelfRefusal_0 : decode cX8_shelfRefusal 0 = .ok (.iload_n 0, 1) := by decide +kernel
theorem dX8_shelfRefusal_1 : decode cX8_shelfRefusal 1 = .ok (.ifCond .eq 12, 3) := by decide +kernel
theorem dX8_shelfRefusal_4 : decode cX8_shelfRefusal 4 = .ok (.iload_n 0, 1) := by decide +kernel
theorem dX8_shelfRefusal_5 : decode cX8_shelfRefusal 5 = .ok (.bipush 12, 2) := by decide +kernel
theorem dX8_shelfRefusal_7 : decode cX8_shelfRefusal 7 = .ok (.invokestatic 87, 3) := by decide +kernel
theorem dX8_shelfRefusal_10 : decode cX8_shelfRefusal 10 = .ok (.ifCond .eq 5, 3) := by decide +kernel
theorem dX8_shelfRefusal_13 : decode cX8_shelfRefusal 13 = .ok (.iconst (-1), 1) := by decide +kernel
theorem dX8_shelfRefusal_14 : decode cX8_shelfRefusal 14 = .ok (.ireturn, 1) := by decide +kernel
theorem dX8_shelfRefusal_15 : decode cX8_shelfRefusal 15 = .ok (.iload_n 0, 1) := by decide +kernel
theorem dX8_shelfRefusal_16 : decode cX8_shelfRefusal 16 = .ok (.invokestatic 246, 3) := by decide +kernel
theorem dX8_shelfRefusal_19 : decode cX8_shelfRefusal 19 = .ok (.bipush 8, 2) := by decide +kernel
theorem dX8_shelfRefusal_21 : decode cX8_shelfRefusal 21 = .ok (.if_icmp .le 8, 3) := by decide +kernel
theorem dX8_shelfRefusal_24 : decode cX8_shelfRefusal 24 = .ok (.bipush (-6), 2) := by decide +kernel
theorem dX8_shelfRefusal_26 : decode cX8_shelfRefusal 26 = .ok (.goto 4, 3) := by decide +kernel
theorem dX8_shelfRefusal_29 : decode cX8_shelfRefusal 29 = .ok (.iconst 0, 1) := by decide +kernel
theorem dX8_shelfRefusal_30 : decode cX8_shelfRefusal 30 = .ok (.ireturn, 1) := by decide +kernel
theorem dX8_isWay_0 : decode cX8_isWay 0 = .ok (.iload_n 1, 1) := by decide +kernel
theorem dX8_isWay_1 : decode cX8_isWay 1 = .ok (.iconst 1, 1) := by decide +kernel
theorem dX8_isWay_2 : decode cX8_isWay 2 = .ok (.if_icmp .lt 10, 3) := by decide +kernel
theorem dX8_isWay_5 : decode cX8_isWay 5 = .ok (.iload_n 1, 1) := by decide +kernel
theorem dX8_isWay_6 : decode cX8_isWay 6 = .ok (.sipush 999, 3) := by decide +kernel
theorem dX8_isWay_9 : decode cX8_isWay 9 = .ok (.if_icmp .le 5, 3) := by decide +kernel
theorem dX8_isWay_12 : decode cX8_isWay 12 = .ok (.iconst 0, 1) := by decide +kernel
theorem dX8_isWay_13 : decode cX8_isWay 13 = .ok (.ireturn, 1) := by decide +kernel
theorem dX8_isWay_14 : decode cX8_isWay 14 = .ok (.iconst 1, 1) := by decide +kernel
theorem dX8_isWay_15 : decode cX8_isWay 15 = .ok (.iload_n 0, 1) := by decide +kernel
theorem dX8_isWay_16 : decode cX8_isWay 16 = .ok (.ishl, 1) := by decide +kernel
theorem dX8_isWay_17 : decode cX8_isWay 17 = .ok (.istore_n 2, 1) := by decide +kernel
theorem dX8_isWay_18 : decode cX8_isWay 18 = .ok (.iload_n 1, 1) := by decide +kernel
theorem dX8_isWay_19 : decode cX8_isWay 19 = .ok (.istore_n 3, 1) := by decide +kernel
theorem dX8_isWay_20 : decode cX8_isWay 20 = .ok (.iload_n 3, 1) := by decide +kernel
theorem dX8_isWay_21 : decode cX8_isWay 21 = .ok (.ifCond .le 45, 3) := by decide +kernel
theorem dX8_isWay_24 : decode cX8_isWay 24 = .ok (.iload_n 3, 1) := by decide +kernel
theorem dX8_isWay_25 : decode cX8_isWay 25 = .ok (.bipush 10, 2) := by decide +kernel
theorem dX8_isWay_27 : decode cX8_isWay 27 = .ok (.irem, 1) := by decide +kernel
theorem dX8_isWay_28 : decode cX8_isWay 28 = .ok (.iconst 1, 1) := by decide +kernel
theorem dX8_isWay_29 : decode cX8_isWay 29 = .ok (.isub, 1) := by decide +kernel
theorem dX8_isWay_30 : decode cX8_isWay 30 = .ok (.istore 4, 2) := by decide +kernel
theorem dX8_isWay_32 : decode cX8_isWay 32 = .ok (.iload 4, 2) := by decide +kernel
theorem dX8_isWay_34 : decode cX8_isWay 34 = .ok (.invokestatic 81, 3) := by decide +kernel
theorem dX8_isWay_37 : decode cX8_isWay 37 = .ok (.ifCond .eq 12, 3) := by decide +kernel
theorem dX8_isWay_40 : decode cX8_isWay 40 = .ok (.iload_n 2, 1) := by decide +kernel
theorem dX8_isWay_41 : decode cX8_isWay 41 = .ok (.iload 4, 2) := by decide +kernel
theorem dX8_isWay_43 : decode cX8_isWay 43 = .ok (.ishr, 1) := by decide +kernel
theorem dX8_isWay_44 : decode cX8_isWay 44 = .ok (.iconst 1, 1) := by decide +kernel
theorem dX8_isWay_45 : decode cX8_isWay 45 = .ok (.iand, 1) := by decide +kernel
theorem dX8_isWay_46 : decode cX8_isWay 46 = .ok (.ifCond .eq 5, 3) := by decide +kernel
theorem dX8_isWay_49 : decode cX8_isWay 49 = .ok (.iconst 0, 1) := by decide +kernel
theorem dX8_isWay_50 : decode cX8_isWay 50 = .ok (.ireturn, 1) := by decide +kernel
theorem dX8_isWay_51 : decode cX8_isWay 51 = .ok (.iload_n 2, 1) := by decide +kernel
theorem dX8_isWay_52 : decode cX8_isWay 52 = .ok (.iconst 1, 1) := by decide +kernel
theorem dX8_isWay_53 : decode cX8_isWay 53 = .ok (.iload 4, 2) := by decide +kernel
theorem dX8_isWay_55 : decode cX8_isWay 55 = .ok (.ishl, 1) := by decide +kernel
theorem dX8_isWay_56 : decode cX8_isWay 56 = .ok (.ior, 1) := by decide +kernel
theorem dX8_isWay_57 : decode cX8_isWay 57 = .ok (.istore_n 2, 1) := by decide +kernel
theorem dX8_isWay_58 : decode cX8_isWay 58 = .ok (.iload_n 3, 1) := by decide +kernel
theorem dX8_isWay_59 : decode cX8_isWay 59 = .ok (.bipush 10, 2) := by decide +kernel
theorem dX8_isWay_61 : decode cX8_isWay 61 = .ok (.idiv, 1) := by decide +kernel
theorem dX8_isWay_62 : decode cX8_isWay 62 = .ok (.istore_n 3, 1) := by decide +kernel
theorem dX8_isWay_63 : decode cX8_isWay 63 = .ok (.goto (-43), 3) := by decide +kernel
theorem dX8_isWay_66 : decode cX8_isWay 66 = .ok (.iconst 1, 1) := by decide +kernel
theorem dX8_isWay_67 : decode cX8_isWay 67 = .ok (.ireturn, 1) := by decide +kernel
theorem dX8_followChain_0 : decode cX8_followChain 0 = .ok (.iload_n 1, 1) := by decide +kernel
theorem dX8_followChain_1 : decode cX8_followChain 1 = .ok (.istore 5, 2) := by decide +kernel
theorem dX8_followChain_3 : decode cX8_followChain 3 = .ok (.iload_n 2, 1) := by decide +kernel
theorem dX8_followChain_4 : decode cX8_followChain 4 = .ok (.istore 6, 2) := by decide +kernel
theorem dX8_followChain_6 : decode cX8_followChain 6 = .ok (.iconst 0, 1) := by decide +kernel
theorem dX8_followChain_7 : decode cX8_followChain 7 = .ok (.istore 7, 2) := by decide +kernel
theorem dX8_followChain_9 : decode cX8_followChain 9 = .ok (.iconst 0, 1) := by decide +kernel
theorem dX8_followChain_10 : decode cX8_followChain 10 = .ok (.istore 8, 2) := by decide +kernel
theorem dX8_followChain_12 : decode cX8_followChain 12 = .ok (.bipush 100, 2) := by decide +kernel
theorem dX8_followChain_14 : decode cX8_followChain 14 = .ok (.istore 9, 2) := by decide +kernel
theorem dX8_followChain_16 : decode cX8_followChain 16 = .ok (.iload 9, 2) := by decide +kernel
theorem dX8_followChain_18 : decode cX8_followChain 18 = .ok (.ifCond .le 131, 3) := by decide +kernel
theorem dX8_followChain_21 : decode cX8_followChain 21 = .ok (.iload 6, 2) := by decide +kernel
theorem dX8_followChain_23 : decode cX8_followChain 23 = .ok (.bipush (-9), 2) := by decide +kernel
theorem dX8_followChain_25 : decode cX8_followChain 25 = .ok (.if_icmp .eq 124, 3) := by decide +kernel
theorem dX8_followChain_28 : decode cX8_followChain 28 = .ok (.iload_n 3, 1) := by decide +kernel
theorem dX8_followChain_29 : decode cX8_followChain 29 = .ok (.iload 9, 2) := by decide +kernel
theorem dX8_followChain_31 : decode cX8_followChain 31 = .ok (.idiv, 1) := by decide +kernel
theorem dX8_followChain_32 : decode cX8_followChain 32 = .ok (.bipush 10, 2) := by decide +kernel
theorem dX8_followChain_34 : decode cX8_followChain 34 = .ok (.irem, 1) := by decide +kernel
theorem dX8_followChain_35 : decode cX8_followChain 35 = .ok (.iconst 1, 1) := by decide +kernel
theorem dX8_followChain_36 : decode cX8_followChain 36 = .ok (.isub, 1) := by decide +kernel
theorem dX8_followChain_37 : decode cX8_followChain 37 = .ok (.istore 10, 2) := by decide +kernel
theorem dX8_followChain_39 : decode cX8_followChain 39 = .ok (.iload 10, 2) := by decide +kernel
theorem dX8_followChain_41 : decode cX8_followChain 41 = .ok (.ifCond .lt 98, 3) := by decide +kernel
theorem dX8_followChain_44 : decode cX8_followChain 44 = .ok (.aload_n 0, 1) := by decide +kernel
theorem dX8_followChain_45 : decode cX8_followChain 45 = .ok (.iload 5, 2) := by decide +kernel
theorem dX8_followChain_47 : decode cX8_followChain 47 = .ok (.iload 10, 2) := by decide +kernel
theorem dX8_followChain_49 : decode cX8_followChain 49 = .ok (.invokevirtual 124, 3) := by decide +kernel
theorem dX8_followChain_52 : decode cX8_followChain 52 = .ok (.astore 11, 2) := by decide +kernel
theorem dX8_followChain_54 : decode cX8_followChain 54 = .ok (.aload 11, 2) := by decide +kernel
theorem dX8_followChain_56 : decode cX8_followChain 56 = .ok (.getfield 131, 3) := by decide +kernel
theorem dX8_followChain_59 : decode cX8_followChain 59 = .ok (.iload 6, 2) := by decide +kernel
theorem dX8_followChain_61 : decode cX8_followChain 61 = .ok (.iaload, 1) := by decide +kernel
theorem dX8_followChain_62 : decode cX8_followChain 62 = .ok (.istore 12, 2) := by decide +kernel
theorem dX8_followChain_64 : decode cX8_followChain 64 = .ok (.iload 12, 2) := by decide +kernel
theorem dX8_followChain_66 : decode cX8_followChain 66 = .ok (.bipush (-9), 2) := by decide +kernel
theorem dX8_followChain_68 : decode cX8_followChain 68 = .ok (.if_icmp .eq 63, 3) := by decide +kernel
theorem dX8_followChain_71 : decode cX8_followChain 71 = .ok (.iinc 7 1, 3) := by decide +kernel
theorem dX8_followChain_74 : decode cX8_followChain 74 = .ok (.aload_n 0, 1) := by decide +kernel
theorem dX8_followChain_75 : decode cX8_followChain 75 = .ok (.getfield 20, 3) := by decide +kernel
theorem dX8_followChain_78 : decode cX8_followChain 78 = .ok (.iload 5, 2) := by decide +kernel
theorem dX8_followChain_80 : decode cX8_followChain 80 = .ok (.bipush 10, 2) := by decide +kernel
theorem dX8_followChain_82 : decode cX8_followChain 82 = .ok (.imul, 1) := by decide +kernel
theorem dX8_followChain_83 : decode cX8_followChain 83 = .ok (.iload 6, 2) := by decide +kernel
theorem dX8_followChain_85 : decode cX8_followChain 85 = .ok (.iadd, 1) := by decide +kernel
theorem dX8_followChain_86 : decode cX8_followChain 86 = .ok (.iload 10, 2) := by decide +kernel
theorem dX8_followChain_88 : decode cX8_followChain 88 = .ok (.bipush 10, 2) := by decide +kernel
theorem dX8_followChain_90 : decode cX8_followChain 90 = .ok (.imul, 1) := by decide +kernel
theorem dX8_followChain_91 : decode cX8_followChain 91 = .ok (.iload 12, 2) := by decide +kernel
theorem dX8_followChain_93 : decode cX8_followChain 93 = .ok (.iadd, 1) := by decide +kernel
theorem dX8_followChain_94 : decode cX8_followChain 94 = .ok (.invokevirtual 121, 3) := by decide +kernel
theorem dX8_followChain_97 : decode cX8_followChain 97 = .ok (.istore 13, 2) := by decide +kernel
theorem dX8_followChain_99 : decode cX8_followChain 99 = .ok (.iload 8, 2) := by decide +kernel
theorem dX8_followChain_101 : decode cX8_followChain 101 = .ok (.iconst 0, 1) := by decide +kernel
theorem dX8_followChain_102 : decode cX8_followChain 102 = .ok (.bipush 100, 2) := by decide +kernel
theorem dX8_followChain_104 : decode cX8_followChain 104 = .ok (.iload 13, 2) := by decide +kernel
theorem dX8_followChain_106 : decode cX8_followChain 106 = .ok (.isub, 1) := by decide +kernel
theorem dX8_followChain_107 : decode cX8_followChain 107 = .ok (.invokestatic 251, 3) := by decide +kernel
theorem dX8_followChain_110 : decode cX8_followChain 110 = .ok (.aload 11, 2) := by decide +kernel
theorem dX8_followChain_112 : decode cX8_followChain 112 = .ok (.getfield 137, 3) := by decide +kernel
theorem dX8_followChain_115 : decode cX8_followChain 115 = .ok (.iload 6, 2) := by decide +kernel
theorem dX8_followChain_117 : decode cX8_followChain 117 = .ok (.baload, 1) := by decide +kernel
theorem dX8_followChain_118 : decode cX8_followChain 118 = .ok (.ifCond .eq 7, 3) := by decide +kernel
theorem dX8_followChain_121 : decode cX8_followChain 121 = .ok (.iconst 0, 1) := by decide +kernel
theorem dX8_followChain_122 : decode cX8_followChain 122 = .ok (.goto 5, 3) := by decide +kernel
theorem dX8_followChain_125 : decode cX8_followChain 125 = .ok (.bipush 50, 2) := by decide +kernel
theorem dX8_followChain_127 : decode cX8_followChain 127 = .ok (.iadd, 1) := by decide +kernel
theorem dX8_followChain_128 : decode cX8_followChain 128 = .ok (.iadd, 1) := by decide +kernel
theorem dX8_followChain_129 : decode cX8_followChain 129 = .ok (.istore 8, 2) := by decide +kernel
theorem dX8_followChain_131 : decode cX8_followChain 131 = .ok (.iload 10, 2) := by decide +kernel
theorem dX8_followChain_133 : decode cX8_followChain 133 = .ok (.istore 5, 2) := by decide +kernel
theorem dX8_followChain_135 : decode cX8_followChain 135 = .ok (.iload 12, 2) := by decide +kernel
theorem dX8_followChain_137 : decode cX8_followChain 137 = .ok (.istore 6, 2) := by decide +kernel
theorem dX8_followChain_139 : decode cX8_followChain 139 = .ok (.iload 9, 2) := by decide +kernel
theorem dX8_followChain_141 : decode cX8_followChain 141 = .ok (.bipush 10, 2) := by decide +kernel
theorem dX8_followChain_143 : decode cX8_followChain 143 = .ok (.idiv, 1) := by decide +kernel
theorem dX8_followChain_144 : decode cX8_followChain 144 = .ok (.istore 9, 2) := by decide +kernel
theorem dX8_followChain_146 : decode cX8_followChain 146 = .ok (.goto (-130), 3) := by decide +kernel
theorem dX8_followChain_149 : decode cX8_followChain 149 = .ok (.iload 4, 2) := by decide +kernel
theorem dX8_followChain_151 : decode cX8_followChain 151 = .ok (.ifCond .ne 6, 3) := by decide +kernel
theorem dX8_followChain_154 : decode cX8_followChain 154 = .ok (.iload 6, 2) := by decide +kernel
theorem dX8_followChain_156 : decode cX8_followChain 156 = .ok (.ireturn, 1) := by decide +kernel
theorem dX8_followChain_157 : decode cX8_followChain 157 = .ok (.iload 4, 2) := by decide +kernel
theorem dX8_followChain_159 : decode cX8_followChain 159 = .ok (.iconst 1, 1) := by decide +kernel
theorem dX8_followChain_160 : decode cX8_followChain 160 = .ok (.if_icmp .ne 8, 3) := by decide +kernel
theorem dX8_followChain_163 : decode cX8_followChain 163 = .ok (.iload 7, 2) := by decide +kernel
theorem dX8_followChain_165 : decode cX8_followChain 165 = .ok (.goto 5, 3) := by decide +kernel
theorem dX8_followChain_168 : decode cX8_followChain 168 = .ok (.iload 8, 2) := by decide +kernel
theorem dX8_followChain_170 : decode cX8_followChain 170 = .ok (.ireturn, 1) := by decide +kernel
theorem dX8_bestJoining_0 : decode cX8_bestJoining 0 = .ok (.aload_n 0, 1) := by decide +kernel
theorem dX8_bestJoining_1 : decode cX8_bestJoining 1 = .ok (.getfield 26, 3) := by decide +kernel
theorem dX8_bestJoining_4 : decode cX8_bestJoining 4 = .ok (.iload_n 1, 1) := by decide +kernel
theorem dX8_bestJoining_5 : decode cX8_bestJoining 5 = .ok (.iconst 4, 1) := by decide +kernel
theorem dX8_bestJoining_6 : decode cX8_bestJoining 6 = .ok (.imul, 1) := by decide +kernel
theorem dX8_bestJoining_7 : decode cX8_bestJoining 7 = .ok (.iload_n 2, 1) := by decide +kernel
theorem dX8_bestJoining_8 : decode cX8_bestJoining 8 = .ok (.iadd, 1) := by decide +kernel
theorem dX8_bestJoining_9 : decode cX8_bestJoining 9 = .ok (.aaload, 1) := by decide +kernel
theorem dX8_bestJoining_10 : decode cX8_bestJoining 10 = .ok (.astore_n 3, 1) := by decide +kernel
theorem dX8_bestJoining_11 : decode cX8_bestJoining 11 = .ok (.aload_n 3, 1) := by decide +kernel
theorem dX8_bestJoining_12 : decode cX8_bestJoining 12 = .ok (.getfield 256, 3) := by decide +kernel
theorem dX8_bestJoining_15 : decode cX8_bestJoining 15 = .ok (.aload_n 0, 1) := by decide +kernel
theorem dX8_bestJoining_16 : decode cX8_bestJoining 16 = .ok (.getfield 20, 3) := by decide +kernel
theorem dX8_bestJoining_19 : decode cX8_bestJoining 19 = .ok (.getfield 259, 3) := by decide +kernel
theorem dX8_bestJoining_22 : decode cX8_bestJoining 22 = .ok (.if_icmp .eq 46, 3) := by decide +kernel
theorem dX8_bestJoining_25 : decode cX8_bestJoining 25 = .ok (.aload_n 0, 1) := by decide +kernel
theorem dX8_bestJoining_26 : decode cX8_bestJoining 26 = .ok (.getfield 9, 3) := by decide +kernel
theorem dX8_bestJoining_29 : decode cX8_bestJoining 29 = .ok (.ifnonnull 14, 3) := by decide +kernel
theorem dX8_bestJoining_32 : decode cX8_bestJoining 32 = .ok (.aload_n 0, 1) := by decide +kernel
theorem dX8_bestJoining_33 : decode cX8_bestJoining 33 = .ok (.new 260, 3) := by decide +kernel
theorem dX8_bestJoining_36 : decode cX8_bestJoining 36 = .ok (.dup, 1) := by decide +kernel
theorem dX8_bestJoining_37 : decode cX8_bestJoining 37 = .ok (.invokespecial 262, 3) := by decide +kernel
theorem dX8_bestJoining_40 : decode cX8_bestJoining 40 = .ok (.putfield 9, 3) := by decide +kernel
theorem dX8_bestJoining_43 : decode cX8_bestJoining 43 = .ok (.aload_n 0, 1) := by decide +kernel
theorem dX8_bestJoining_44 : decode cX8_bestJoining 44 = .ok (.getfield 9, 3) := by decide +kernel
theorem dX8_bestJoining_47 : decode cX8_bestJoining 47 = .ok (.aload_n 0, 1) := by decide +kernel
theorem dX8_bestJoining_48 : decode cX8_bestJoining 48 = .ok (.getfield 20, 3) := by decide +kernel
theorem dX8_bestJoining_51 : decode cX8_bestJoining 51 = .ok (.iload_n 1, 1) := by decide +kernel
theorem dX8_bestJoining_52 : decode cX8_bestJoining 52 = .ok (.iload_n 2, 1) := by decide +kernel
theorem dX8_bestJoining_53 : decode cX8_bestJoining 53 = .ok (.aload_n 3, 1) := by decide +kernel
theorem dX8_bestJoining_54 : decode cX8_bestJoining 54 = .ok (.invokevirtual 263, 3) := by decide +kernel
theorem dX8_bestJoining_57 : decode cX8_bestJoining 57 = .ok (.aload_n 3, 1) := by decide +kernel
theorem dX8_bestJoining_58 : decode cX8_bestJoining 58 = .ok (.aload_n 0, 1) := by decide +kernel
theorem dX8_bestJoining_59 : decode cX8_bestJoining 59 = .ok (.getfield 20, 3) := by decide +kernel
theorem dX8_bestJoining_62 : decode cX8_bestJoining 62 = .ok (.getfield 259, 3) := by decide +kernel
theorem dX8_bestJoining_65 : decode cX8_bestJoining 65 = .ok (.putfield 256, 3) := by decide +kernel
theorem dX8_bestJoining_68 : decode cX8_bestJoining 68 = .ok (.aload_n 3, 1) := by decide +kernel
theorem dX8_bestJoining_69 : decode cX8_bestJoining 69 = .ok (.areturn, 1) := by decide +kernel
theorem dX8_bestRow_0 : decode cX8_bestRow 0 = .ok (.aload_n 0, 1) := by decide +kernel
theorem dX8_bestRow_1 : decode cX8_bestRow 1 = .ok (.getfield 13, 3) := by decide +kernel
theorem dX8_bestRow_4 : decode cX8_bestRow 4 = .ok (.ifnonnull 14, 3) := by decide +kernel
theorem dX8_bestRow_7 : decode cX8_bestRow 7 = .ok (.aload_n 0, 1) := by decide +kernel
theorem dX8_bestRow_8 : decode cX8_bestRow 8 = .ok (.new 216, 3) := by decide +kernel
theorem dX8_bestRow_11 : decode cX8_bestRow 11 = .ok (.dup, 1) := by decide +kernel
theorem dX8_bestRow_12 : decode cX8_bestRow 12 = .ok (.invokespecial 267, 3) := by decide +kernel
theorem dX8_bestRow_15 : decode cX8_bestRow 15 = .ok (.putfield 13, 3) := by decide +kernel
theorem dX8_bestRow_18 : decode cX8_bestRow 18 = .ok (.aload_n 0, 1) := by decide +kernel
theorem dX8_bestRow_19 : decode cX8_bestRow 19 = .ok (.getfield 13, 3) := by decide +kernel
theorem dX8_bestRow_22 : decode cX8_bestRow 22 = .ok (.iload_n 1, 1) := by decide +kernel
theorem dX8_bestRow_23 : decode cX8_bestRow 23 = .ok (.aload_n 0, 1) := by decide +kernel
theorem dX8_bestRow_24 : decode cX8_bestRow 24 = .ok (.getfield 51, 3) := by decide +kernel
theorem dX8_bestRow_27 : decode cX8_bestRow 27 = .ok (.invokevirtual 268, 3) := by decide +kernel
theorem dX8_bestRow_30 : decode cX8_bestRow 30 = .ok (.aload_n 0, 1) := by decide +kernel
theorem dX8_bestRow_31 : decode cX8_bestRow 31 = .ok (.getfield 13, 3) := by decide +kernel
theorem dX8_bestRow_34 : decode cX8_bestRow 34 = .ok (.areturn, 1) := by decide +kernel
theorem dX9_init_0 : decode cX9_init 0 = .ok (.aload_n 0, 1) := by decide +kernel
theorem dX9_init_1 : decode cX9_init 1 = .ok (.invokespecial 1, 3) := by decide +kernel
theorem dX9_init_4 : decode cX9_init 4 = .ok (.aload_n 0, 1) := by decide +kernel
theorem dX9_init_5 : decode cX9_init 5 = .ok (.bipush 7, 2) := by decide +kernel
theorem dX9_init_7 : decode cX9_init 7 = .ok (.newarray .int, 2) := by decide +kernel
theorem dX9_init_9 : decode cX9_init 9 = .ok (.putfield 7, 3) := by decide +kernel
theorem dX9_init_12 : decode cX9_init 12 = .ok (.aload_n 0, 1) := by decide +kernel
theorem dX9_init_13 : decode cX9_init 13 = .ok (.bipush 20, 2) := by decide +kernel
theorem dX9_init_15 : decode cX9_init 15 = .ok (.newarray .int, 2) := by decide +kernel
theorem dX9_init_17 : decode cX9_init 17 = .ok (.putfield 13, 3) := by decide +kernel
theorem dX9_init_20 : decode cX9_init 20 = .ok (.aload_n 0, 1) := by decide +kernel
theorem dX9_init_21 : decode cX9_init 21 = .ok (.iconst 4, 1) := by decide +kernel
theorem dX9_init_22 : decode cX9_init 22 = .ok (.newarray .int, 2) := by decide +kernel
theorem dX9_init_24 : decode cX9_init 24 = .ok (.putfield 16, 3) := by decide +kernel
theorem dX9_init_27 : decode cX9_init 27 = .ok (.aload_n 0, 1) := by decide +kernel
theorem dX9_init_28 : decode cX9_init 28 = .ok (.iconst 4, 1) := by decide +kernel
theorem dX9_init_29 : decode cX9_init 29 = .ok (.newarray .int, 2) := by decide +kernel
theorem dX9_init_31 : decode cX9_init 31 = .ok (.putfield 19, 3) := by decide +kernel
theorem dX9_init_34 : decode cX9_init 34 = .ok (.aload_n 0, 1) := by decide +kernel
theorem dX9_init_35 : decode cX9_init 35 = .ok (.bipush 40, 2) := by decide +kernel
theorem dX9_init_37 : decode cX9_init 37 = .ok (.newarray .int, 2) := by decide +kernel
theorem dX9_init_39 : decode cX9_init 39 = .ok (.putfield 22, 3) := by decide +kernel
theorem dX9_init_42 : decode cX9_init 42 = .ok (.aload_n 0, 1) := by decide +kernel
theorem dX9_init_43 : decode cX9_init 43 = .ok (.bipush 40, 2) := by decide +kernel
theorem dX9_init_45 : decode cX9_init 45 = .ok (.newarray .int, 2) := by decide +kernel
theorem dX9_init_47 : decode cX9_init 47 = .ok (.putfield 25, 3) := by decide +kernel
theorem dX9_init_50 : decode cX9_init 50 = .ok (.aload_n 0, 1) := by decide +kernel
theorem dX9_init_51 : decode cX9_init 51 = .ok (.bipush 40, 2) := by decide +kernel
theorem dX9_init_53 : decode cX9_init 53 = .ok (.newarray .int, 2) := by decide +kernel
theorem dX9_init_55 : decode cX9_init 55 = .ok (.putfield 28, 3) := by decide +kernel
theorem dX9_init_58 : decode cX9_init 58 = .ok (.aload_n 0, 1) := by decide +kernel
theorem dX9_init_59 : decode cX9_init 59 = .ok (.bipush 40, 2) := by decide +kernel
theorem dX9_init_61 : decode cX9_init 61 = .ok (.newarray .int, 2) := by decide +kernel
theorem dX9_init_63 : decode cX9_init 63 = .ok (.putfield 31, 3) := by decide +kernel
theorem dX9_init_66 : decode cX9_init 66 = .ok (.aload_n 0, 1) := by decide +kernel
theorem dX9_init_67 : decode cX9_init 67 = .ok (.bipush 30, 2) := by decide +kernel
theorem dX9_init_69 : decode cX9_init 69 = .ok (.newarray .int, 2) := by decide +kernel
theorem dX9_init_71 : decode cX9_init 71 = .ok (.putfield 34, 3) := by decide +kernel
theorem dX9_init_74 : decode cX9_init 74 = .ok (.aload_n 0, 1) := by decide +kernel
theorem dX9_init_75 : decode cX9_init 75 = .ok (.bipush 30, 2) := by decide +kernel
theorem dX9_init_77 : decode cX9_init 77 = .ok (.newarray .int, 2) := by decide +kernel
theorem dX9_init_79 : decode cX9_init 79 = .ok (.putfield 37, 3) := by decide +kernel
theorem dX9_init_82 : decode cX9_init 82 = .ok (.aload_n 0, 1) := by decide +kernel
theorem dX9_init_83 : decode cX9_init 83 = .ok (.iconst 5, 1) := by decide +kernel
theorem dX9_init_84 : decode cX9_init 84 = .ok (.putfield 40, 3) := by decide +kernel
theorem dX9_init_87 : decode cX9_init 87 = .ok (.aload_n 0, 1) := by decide +kernel
theorem dX9_init_88 : decode cX9_init 88 = .ok (.iconst 1, 1) := by decide +kernel
theorem dX9_init_89 : decode cX9_init 89 = .ok (.putfield 44, 3) := by decide +kernel
theorem dX9_init_92 : decode cX9_init 92 = .ok (.aload_n 0, 1) := by decide +kernel
theorem dX9_init_93 : decode cX9_init 93 = .ok (.bipush 100, 2) := by decide +kernel
theorem dX9_init_95 : decode cX9_init 95 = .ok (.newarray .int, 2) := by decide +kernel
theorem dX9_init_97 : decode cX9_init 97 = .ok (.putfield 47, 3) := by decide +kernel
theorem dX9_init_100 : decode cX9_init 100 = .ok (.aload_n 0, 1) := by decide +kernel
theorem dX9_init_101 : decode cX9_init 101 = .ok (.sipush 11264, 3) := by decide +kernel
theorem dX9_init_104 : decode cX9_init 104 = .ok (.newarray .int, 2) := by decide +kernel
theorem dX9_init_106 : decode cX9_init 106 = .ok (.putfield 50, 3) := by decide +kernel
theorem dX9_init_109 : decode cX9_init 109 = .ok (.aload_n 0, 1) := by decide +kernel
theorem dX9_init_110 : decode cX9_init 110 = .ok (.bipush 10, 2) := by decide +kernel
theorem dX9_init_112 : decode cX9_init 112 = .ok (.newarray .int, 2) := by decide +kernel
theorem dX9_init_114 : decode cX9_init 114 = .ok (.putfield 53, 3) := by decide +kernel
theorem dX9_init_117 : decode cX9_init 117 = .ok (.aload_n 0, 1) := by decide +kernel
theorem dX9_init_118 : decode cX9_init 118 = .ok (.sipush 11264, 3) := by decide +kernel
theorem dX9_init_121 : decode cX9_init 121 = .ok (.newarray .int, 2) := by decide +kernel
theorem dX9_init_123 : decode cX9_init 123 = .ok (.putfield 56, 3) := by decide +kernel
theorem dX9_init_126 : decode cX9_init 126 = .ok (.aload_n 0, 1) := by decide +kernel
theorem dX9_init_127 : decode cX9_init 127 = .ok (.bipush 60, 2) := by decide +kernel
theorem dX9_init_129 : decode cX9_init 129 = .ok (.newarray .int, 2) := by decide +kernel
theorem dX9_init_131 : decode cX9_init 131 = .ok (.putfield 59, 3) := by decide +kernel
theorem dX9_init_134 : decode cX9_init 134 = .ok (.aload_n 0, 1) := by decide +kernel
theorem dX9_init_135 : decode cX9_init 135 = .ok (.bipush 60, 2) := by decide +kernel
theorem dX9_init_137 : decode cX9_init 137 = .ok (.newarray .int, 2) := by decide +kernel
theorem dX9_init_139 : decode cX9_init 139 = .ok (.putfield 62, 3) := by decide +kernel
theorem dX9_init_142 : decode cX9_init 142 = .ok (.aload_n 0, 1) := by decide +kernel
theorem dX9_init_143 : decode cX9_init 143 = .ok (.bipush 60, 2) := by decide +kernel
theorem dX9_init_145 : decode cX9_init 145 = .ok (.newarray .int, 2) := by decide +kernel
theorem dX9_init_147 : decode cX9_init 147 = .ok (.putfield 65, 3) := by decide +kernel
theorem dX9_init_150 : decode cX9_init 150 = .ok (.aload_n 0, 1) := by decide +kernel
theorem dX9_init_151 : decode cX9_init 151 = .ok (.bipush 60, 2) := by decide +kernel
theorem dX9_init_153 : decode cX9_init 153 = .ok (.newarray .int, 2) := by decide +kernel
theorem dX9_init_155 : decode cX9_init 155 = .ok (.putfield 68, 3) := by decide +kernel
theorem dX9_init_158 : decode cX9_init 158 = .ok (.aload_n 0, 1) := by decide +kernel
theorem dX9_init_159 : decode cX9_init 159 = .ok (.bipush 60, 2) := by decide +kernel
theorem dX9_init_161 : decode cX9_init 161 = .ok (.newarray .int, 2) := by decide +kernel
theorem dX9_init_163 : decode cX9_init 163 = .ok (.putfield 71, 3) := by decide +kernel
theorem dX9_init_166 : decode cX9_init 166 = .ok (.aload_n 0, 1) := by decide +kernel
theorem dX9_init_167 : decode cX9_init 167 = .ok (.bipush 60, 2) := by decide +kernel
theorem dX9_init_169 : decode cX9_init 169 = .ok (.newarray .int, 2) := by decide +kernel
theorem dX9_init_171 : decode cX9_init 171 = .ok (.putfield 74, 3) := by decide +kernel
theorem dX9_init_174 : decode cX9_init 174 = .ok (.aload_n 0, 1) := by decide +kernel
theorem dX9_init_175 : decode cX9_init 175 = .ok (.bipush 60, 2) := by decide +kernel
theorem dX9_init_177 : decode cX9_init 177 = .ok (.newarray .int, 2) := by decide +kernel
theorem dX9_init_179 : decode cX9_init 179 = .ok (.putfield 77, 3) := by decide +kernel
theorem dX9_init_182 : decode cX9_init 182 = .ok (.aload_n 0, 1) := by decide +kernel
theorem dX9_init_183 : decode cX9_init 183 = .ok (.bipush 60, 2) := by decide +kernel
theorem dX9_init_185 : decode cX9_init 185 = .ok (.newarray .int, 2) := by decide +kernel
theorem dX9_init_187 : decode cX9_init 187 = .ok (.putfield 80, 3) := by decide +kernel
theorem dX9_init_190 : decode cX9_init 190 = .ok (.aload_n 0, 1) := by decide +kernel
theorem dX9_init_191 : decode cX9_init 191 = .ok (.bipush 60, 2) := by decide +kernel
theorem dX9_init_193 : decode cX9_init 193 = .ok (.newarray .int, 2) := by decide +kernel
theorem dX9_init_195 : decode cX9_init 195 = .ok (.putfield 83, 3) := by decide +kernel
theorem dX9_init_198 : decode cX9_init 198 = .ok (.aload_n 0, 1) := by decide +kernel
theorem dX9_init_199 : decode cX9_init 199 = .ok (.bipush 60, 2) := by decide +kernel
theorem dX9_init_201 : decode cX9_init 201 = .ok (.newarray .int, 2) := by decide +kernel
theorem dX9_init_203 : decode cX9_init 203 = .ok (.putfield 86, 3) := by decide +kernel
theorem dX9_init_206 : decode cX9_init 206 = .ok (.aload_n 0, 1) := by decide +kernel
theorem dX9_init_207 : decode cX9_init 207 = .ok (.bipush 60, 2) := by decide +kernel
theorem dX9_init_209 : decode cX9_init 209 = .ok (.newarray .int, 2) := by decide +kernel
theorem dX9_init_211 : decode cX9_init 211 = .ok (.putfield 89, 3) := by decide +kernel
theorem dX9_init_214 : decode cX9_init 214 = .ok (.aload_n 0, 1) := by decide +kernel
theorem dX9_init_215 : decode cX9_init 215 = .ok (.bipush 60, 2) := by decide +kernel
theorem dX9_init_217 : decode cX9_init 217 = .ok (.newarray .int, 2) := by decide +kernel
theorem dX9_init_219 : decode cX9_init 219 = .ok (.putfield 92, 3) := by decide +kernel
theorem dX9_init_222 : decode cX9_init 222 = .ok (.aload_n 0, 1) := by decide +kernel
theorem dX9_init_223 : decode cX9_init 223 = .ok (.bipush 60, 2) := by decide +kernel
theorem dX9_init_225 : decode cX9_init 225 = .ok (.newarray .int, 2) := by decide +kernel
theorem dX9_init_227 : decode cX9_init 227 = .ok (.putfield 95, 3) := by decide +kernel
theorem dX9_init_230 : decode cX9_init 230 = .ok (.aload_n 0, 1) := by decide +kernel
theorem dX9_init_231 : decode cX9_init 231 = .ok (.bipush 40, 2) := by decide +kernel
theorem dX9_init_233 : decode cX9_init 233 = .ok (.newarray .int, 2) := by decide +kernel
theorem dX9_init_235 : decode cX9_init 235 = .ok (.putfield 98, 3) := by decide +kernel
theorem dX9_init_238 : decode cX9_init 238 = .ok (.aload_n 0, 1) := by decide +kernel
theorem dX9_init_239 : decode cX9_init 239 = .ok (.bipush 40, 2) := by decide +kernel
theorem dX9_init_241 : decode cX9_init 241 = .ok (.newarray .int, 2) := by decide +kernel
theorem dX9_init_243 : decode cX9_init 243 = .ok (.putfield 101, 3) := by decide +kernel
theorem dX9_init_246 : decode cX9_init 246 = .ok (.aload_n 0, 1) := by decide +kernel
theorem dX9_init_247 : decode cX9_init 247 = .ok (.bipush 40, 2) := by decide +kernel
theorem dX9_init_249 : decode cX9_init 249 = .ok (.newarray .int, 2) := by decide +kernel
theorem dX9_init_251 : decode cX9_init 251 = .ok (.putfield 104, 3) := by decide +kernel
theorem dX9_init_254 : decode cX9_init 254 = .ok (.aload_n 0, 1) := by decide +kernel
theorem dX9_init_255 : decode cX9_init 255 = .ok (.bipush 40, 2) := by decide +kernel
theorem dX9_init_257 : decode cX9_init 257 = .ok (.newarray .int, 2) := by decide +kernel
theorem dX9_init_259 : decode cX9_init 259 = .ok (.putfield 107, 3) := by decide +kernel
theorem dX9_init_262 : decode cX9_init 262 = .ok (.aload_n 0, 1) := by decide +kernel
theorem dX9_init_263 : decode cX9_init 263 = .ok (.bipush 8, 2) := by decide +kernel
theorem dX9_init_265 : decode cX9_init 265 = .ok (.newarray .int, 2) := by decide +kernel
theorem dX9_init_267 : decode cX9_init 267 = .ok (.putfield 110, 3) := by decide +kernel
theorem dX9_init_270 : decode cX9_init 270 = .ok (.aload_n 0, 1) := by decide +kernel
theorem dX9_init_271 : decode cX9_init 271 = .ok (.sipush 2304, 3) := by decide +kernel
theorem dX9_init_274 : decode cX9_init 274 = .ok (.newarray .int, 2) := by decide +kernel
theorem dX9_init_276 : decode cX9_init 276 = .ok (.putfield 113, 3) := by decide +kernel
theorem dX9_init_279 : decode cX9_init 279 = .ok (.aload_n 0, 1) := by decide +kernel
theorem dX9_init_280 : decode cX9_init 280 = .ok (.bipush 8, 2) := by decide +kernel
theorem dX9_init_282 : decode cX9_init 282 = .ok (.newarray .int, 2) := by decide +kernel
theorem dX9_init_284 : decode cX9_init 284 = .ok (.putfield 116, 3) := by decide +kernel
theorem dX9_init_287 : decode cX9_init 287 = .ok (.aload_n 0, 1) := by decide +kernel
theorem dX9_init_288 : decode cX9_init 288 = .ok (.bipush 10, 2) := by decide +kernel
theorem dX9_init_290 : decode cX9_init 290 = .ok (.newarray .int, 2) := by decide +kernel
theorem dX9_init_292 : decode cX9_init 292 = .ok (.putfield 119, 3) := by decide +kernel
theorem dX9_init_295 : decode cX9_init 295 = .ok (.aload_n 0, 1) := by decide +kernel
theorem dX9_init_296 : decode cX9_init 296 = .ok (.bipush 36, 2) := by decide +kernel
theorem dX9_init_298 : decode cX9_init 298 = .ok (.newarray .boolean, 2) := by decide +kernel
theorem dX9_init_300 : decode cX9_init 300 = .ok (.putfield 122, 3) := by decide +kernel
theorem dX9_init_303 : decode cX9_init 303 = .ok (.iconst 0, 1) := by decide +kernel
theorem dX9_init_304 : decode cX9_init 304 = .ok (.istore_n 1, 1) := by decide +kernel
theorem dX9_init_305 : decode cX9_init 305 = .ok (.iload_n 1, 1) := by decide +kernel
theorem dX9_init_306 : decode cX9_init 306 = .ok (.bipush 20, 2) := by decide +kernel
theorem dX9_init_308 : decode cX9_init 308 = .ok (.if_icmp .ge 16, 3) := by decide +kernel
theorem dX9_init_311 : decode cX9_init 311 = .ok (.aload_n 0, 1) := by decide +kernel
theorem dX9_init_312 : decode cX9_init 312 = .ok (.getfield 13, 3) := by decide +kernel
theorem dX9_init_315 : decode cX9_init 315 = .ok (.iload_n 1, 1) := by decide +kernel
theorem dX9_init_316 : decode cX9_init 316 = .ok (.iload_n 1, 1) := by decide +kernel
theorem dX9_init_317 : decode cX9_init 317 = .ok (.iastore, 1) := by decide +kernel
theorem dX9_init_318 : decode cX9_init 318 = .ok (.iinc 1 1, 3) := by decide +kernel
theorem dX9_init_321 : decode cX9_init 321 = .ok (.goto (-16), 3) := by decide +kernel
theorem dX9_init_324 : decode cX9_init 324 = .ok (.iconst 0, 1) := by decide +kernel
theorem dX9_init_325 : decode cX9_init 325 = .ok (.istore_n 1, 1) := by decide +kernel
theorem dX9_init_326 : decode cX9_init 326 = .ok (.iload_n 1, 1) := by decide +kernel
theorem dX9_init_327 : decode cX9_init 327 = .ok (.iconst 4, 1) := by decide +kernel
theorem dX9_init_328 : decode cX9_init 328 = .ok (.if_icmp .ge 18, 3) := by decide +kernel
theorem dX9_init_331 : decode cX9_init 331 = .ok (.aload_n 0, 1) := by decide +kernel
theorem dX9_init_332 : decode cX9_init 332 = .ok (.getfield 16, 3) := by decide +kernel
theorem dX9_init_335 : decode cX9_init 335 = .ok (.iload_n 1, 1) := by decide +kernel
theorem dX9_init_336 : decode cX9_init 336 = .ok (.sipush 1500, 3) := by decide +kernel
theorem dX9_init_339 : decode cX9_init 339 = .ok (.iastore, 1) := by decide +kernel
theorem dX9_init_340 : decode cX9_init 340 = .ok (.iinc 1 1, 3) := by decide +kernel
theorem dX9_init_343 : decode cX9_init 343 = .ok (.goto (-17), 3) := by decide +kernel
theorem dX9_init_346 : decode cX9_init 346 = .ok (.return_, 1) := by decide +kernel
theorem dX9_refuse_0 : decode cX9_refuse 0 = .ok (.aload_n 0, 1) := by decide +kernel
theorem dX9_refuse_1 : decode cX9_refuse 1 = .ok (.getfield 7, 3) := by decide +kernel
theorem dX9_refuse_4 : decode cX9_refuse 4 = .ok (.iload_n 1, 1) := by decide +kernel
theorem dX9_refuse_5 : decode cX9_refuse 5 = .ok (.ineg, 1) := by decide +kernel
theorem dX9_refuse_6 : decode cX9_refuse 6 = .ok (.dup2, 1) := by decide +kernel
theorem dX9_refuse_7 : decode cX9_refuse 7 = .ok (.iaload, 1) := by decide +kernel
theorem dX9_refuse_8 : decode cX9_refuse 8 = .ok (.iconst 1, 1) := by decide +kernel
theorem dX9_refuse_9 : decode cX9_refuse 9 = .ok (.iadd, 1) := by decide +kernel
theorem dX9_refuse_10 : decode cX9_refuse 10 = .ok (.iastore, 1) := by decide +kernel
theorem dX9_refuse_11 : decode cX9_refuse 11 = .ok (.iload_n 1, 1) := by decide +kernel
theorem dX9_refuse_12 : decode cX9_refuse 12 = .ok (.ireturn, 1) := by decide +kernel
theorem dX9_isIn_0 : decode cX9_isIn 0 = .ok (.iload_n 0, 1) := by decide +kernel
theorem dX9_isIn_1 : decode cX9_isIn 1 = .ok (.ifCond .lt 12, 3) := by decide +kernel
theorem dX9_isIn_4 : decode cX9_isIn 4 = .ok (.iload_n 0, 1) := by decide +kernel
theorem dX9_isIn_5 : decode cX9_isIn 5 = .ok (.iload_n 1, 1) := by decide +kernel
theorem dX9_isIn_6 : decode cX9_isIn 6 = .ok (.if_icmp .ge 7, 3) := by decide +kernel
theorem dX9_isIn_9 : decode cX9_isIn 9 = .ok (.iconst 1, 1) := by decide +kernel
theorem dX9_isIn_10 : decode cX9_isIn 10 = .ok (.goto 4, 3) := by decide +kernel
theorem dX9_isIn_13 : decode cX9_isIn 13 = .ok (.iconst 0, 1) := by decide +kernel
theorem dX9_isIn_14 : decode cX9_isIn 14 = .ok (.ireturn, 1) := by decide +kernel
theorem dX9_wrong_0 : decode cX9_wrong 0 = .ok (.iload_n 0, 1) := by decide +kernel
theorem dX9_wrong_1 : decode cX9_wrong 1 = .ok (.iload_n 1, 1) := by decide +kernel
theorem dX9_wrong_2 : decode cX9_wrong 2 = .ok (.if_icmp .ge 8, 3) := by decide +kernel
theorem dX9_wrong_5 : decode cX9_wrong 5 = .ok (.bipush (-4), 2) := by decide +kernel
theorem dX9_wrong_7 : decode cX9_wrong 7 = .ok (.goto 14, 3) := by decide +kernel
theorem dX9_wrong_10 : decode cX9_wrong 10 = .ok (.iload_n 0, 1) := by decide +kernel
theorem dX9_wrong_11 : decode cX9_wrong 11 = .ok (.iload_n 2, 1) := by decide +kernel
theorem dX9_wrong_12 : decode cX9_wrong 12 = .ok (.if_icmp .le 8, 3) := by decide +kernel
theorem dX9_wrong_15 : decode cX9_wrong 15 = .ok (.bipush (-6), 2) := by decide +kernel
theorem dX9_wrong_17 : decode cX9_wrong 17 = .ok (.goto 4, 3) := by decide +kernel
theorem dX9_wrong_20 : decode cX9_wrong 20 = .ok (.iconst 0, 1) := by decide +kernel
theorem dX9_wrong_21 : decode cX9_wrong 21 = .ok (.ireturn, 1) := by decide +kernel
theorem dX9_means_0 : decode cX9_means 0 = .ok (.iload_n 1, 1) := by decide +kernel
theorem dX9_means_1 : decode cX9_means 1 = .ok (.bipush 20, 2) := by decide +kernel
theorem dX9_means_3 : decode cX9_means 3 = .ok (.invokestatic 126, 3) := by decide +kernel
theorem dX9_means_6 : decode cX9_means 6 = .ok (.ifCond .eq 12, 3) := by decide +kernel
theorem dX9_means_9 : decode cX9_means 9 = .ok (.iload_n 2, 1) := by decide +kernel
theorem dX9_means_10 : decode cX9_means 10 = .ok (.bipush 20, 2) := by decide +kernel
theorem dX9_means_12 : decode cX9_means 12 = .ok (.invokestatic 126, 3) := by decide +kernel
theorem dX9_means_15 : decode cX9_means 15 = .ok (.ifCond .ne 9, 3) := by decide +kernel
theorem dX9_means_18 : decode cX9_means 18 = .ok (.aload_n 0, 1) := by decide +kernel
theorem dX9_means_19 : decode cX9_means 19 = .ok (.iconst (-1), 1) := by decide +kernel
theorem dX9_means_20 : decode cX9_means 20 = .ok (.invokevirtual 130, 3) := by decide +kernel
theorem dX9_means_23 : decode cX9_means 23 = .ok (.ireturn, 1) := by decide +kernel
theorem dX9_means_24 : decode cX9_means 24 = .ok (.iload_n 2, 1) := by decide +kernel
theorem dX9_means_25 : decode cX9_means 25 = .ok (.iload_n 1, 1) := by decide +kernel
theorem dX9_means_26 : decode cX9_means 26 = .ok (.if_icmp .le 10, 3) := by decide +kernel
theorem dX9_means_29 : decode cX9_means 29 = .ok (.aload_n 0, 1) := by decide +kernel
theorem dX9_means_30 : decode cX9_means 30 = .ok (.bipush (-4), 2) := by decide +kernel
theorem dX9_means_32 : decode cX9_means 32 = .ok (.invokevirtual 130, 3) := by decide +kernel
theorem dX9_means_35 : decode cX9_means 35 = .ok (.ireturn, 1) := by decide +kernel
theorem dX9_means_36 : decode cX9_means 36 = .ok (.aload_n 0, 1) := by decide +kernel
theorem dX9_means_37 : decode cX9_means 37 = .ok (.getfield 13, 3) := by decide +kernel
theorem dX9_means_40 : decode cX9_means 40 = .ok (.iload_n 1, 1) := by decide +kernel
theorem dX9_means_41 : decode cX9_means 41 = .ok (.iaload, 1) := by decide +kernel
theorem dX9_means_42 : decode cX9_means 42 = .ok (.istore_n 3, 1) := by decide +kernel
theorem dX9_means_43 : decode cX9_means 43 = .ok (.aload_n 0, 1) := by decide +kernel
theorem dX9_means_44 : decode cX9_means 44 = .ok (.getfield 13, 3) := by decide +kernel
theorem dX9_means_47 : decode cX9_means 47 = .ok (.iload_n 1, 1) := by decide +kernel
theorem dX9_means_48 : decode cX9_means 48 = .ok (.iload_n 2, 1) := by decide +kernel
theorem dX9_means_49 : decode cX9_means 49 = .ok (.iastore, 1) := by decide +kernel
theorem dX9_means_50 : decode cX9_means 50 = .ok (.iload_n 3, 1) := by decide +kernel
theorem dX9_means_51 : decode cX9_means 51 = .ok (.ireturn, 1) := by decide +kernel
theorem dX9_senseOf_0 : decode cX9_senseOf 0 = .ok (.iload_n 1, 1) := by decide +kernel
theorem dX9_senseOf_1 : decode cX9_senseOf 1 = .ok (.istore_n 2, 1) := by decide +kernel
theorem dX9_senseOf_2 : decode cX9_senseOf 2 = .ok (.aload_n 0, 1) := by decide +kernel
theorem dX9_senseOf_3 : decode cX9_senseOf 3 = .ok (.getfield 13, 3) := by decide +kernel
theorem dX9_senseOf_6 : decode cX9_senseOf 6 = .ok (.iload_n 2, 1) := by decide +kernel
theorem dX9_senseOf_7 : decode cX9_senseOf 7 = .ok (.iaload, 1) := by decide +kernel
theorem dX9_senseOf_8 : decode cX9_senseOf 8 = .ok (.iload_n 2, 1) := by decide +kernel
theorem dX9_senseOf_9 : decode cX9_senseOf 9 = .ok (.if_icmp .eq 13, 3) := by decide +kernel
theorem dX9_senseOf_12 : decode cX9_senseOf 12 = .ok (.aload_n 0, 1) := by decide +kernel
theorem dX9_senseOf_13 : decode cX9_senseOf 13 = .ok (.getfield 13, 3) := by decide +kernel
theorem dX9_senseOf_16 : decode cX9_senseOf 16 = .ok (.iload_n 2, 1) := by decide +kernel
theorem dX9_senseOf_17 : decode cX9_senseOf 17 = .ok (.iaload, 1) := by decide +kernel
theorem dX9_senseOf_18 : decode cX9_senseOf 18 = .ok (.istore_n 2, 1) := by decide +kernel
theorem dX9_senseOf_19 : decode cX9_senseOf 19 = .ok (.goto (-17), 3) := by decide +kernel
theorem dX9_senseOf_22 : decode cX9_senseOf 22 = .ok (.iload_n 2, 1) := by decide +kernel
theorem dX9_senseOf_23 : decode cX9_senseOf 23 = .ok (.ireturn, 1) := by decide +kernel
theorem dX9_sense_0 : decode cX9_sense 0 = .ok (.iload_n 1, 1) := by decide +kernel
theorem dX9_sense_1 : decode cX9_sense 1 = .ok (.bipush 20, 2) := by decide +kernel
theorem dX9_sense_3 : decode cX9_sense 3 = .ok (.invokestatic 126, 3) := by decide +kernel
theorem dX9_sense_6 : decode cX9_sense 6 = .ok (.ifCond .eq 11, 3) := by decide +kernel
theorem dX9_sense_9 : decode cX9_sense 9 = .ok (.aload_n 0, 1) := by decide +kernel
theorem dX9_sense_10 : decode cX9_sense 10 = .ok (.iload_n 1, 1) := by decide +kernel
theorem dX9_sense_11 : decode cX9_sense 11 = .ok (.invokevirtual 134, 3) := by decide +kernel
theorem dX9_sense_14 : decode cX9_sense 14 = .ok (.goto 8, 3) := by decide +kernel
theorem dX9_sense_17 : decode cX9_sense 17 = .ok (.aload_n 0, 1) := by decide +kernel
theorem dX9_sense_18 : decode cX9_sense 18 = .ok (.iconst (-1), 1) := by decide +kernel
theorem dX9_sense_19 : decode cX9_sense 19 = .ok (.invokevirtual 130, 3) := by decide +kernel
theorem dX9_sense_22 : decode cX9_sense 22 = .ok (.ireturn, 1) := by decide +kernel
theorem dX9_year_0 : decode cX9_year 0 = .ok (.iload_n 1, 1) := by decide +kernel
theorem dX9_year_1 : decode cX9_year 1 = .ok (.iconst 4, 1) := by decide +kernel
theorem dX9_year_2 : decode cX9_year 2 = .ok (.invokestatic 126, 3) := by decide +kernel
theorem dX9_year_5 : decode cX9_year 5 = .ok (.ifCond .eq 16, 3) := by decide +kernel
theorem dX9_year_8 : decode cX9_year 8 = .ok (.iload_n 2, 1) := by decide +kernel
theorem dX9_year_9 : decode cX9_year 9 = .ok (.sipush 1500, 3) := by decide +kernel
theorem dX9_year_12 : decode cX9_year 12 = .ok (.sipush 1900, 3) := by decide +kernel
theorem dX9_year_15 : decode cX9_year 15 = .ok (.invokestatic 137, 3) := by decide +kernel
theorem dX9_year_18 : decode cX9_year 18 = .ok (.goto 4, 3) := by decide +kernel
theorem dX9_year_21 : decode cX9_year 21 = .ok (.iconst (-1), 1) := by decide +kernel
theorem dX9_year_22 : decode cX9_year 22 = .ok (.istore_n 3, 1) := by decide +kernel
theorem dX9_year_23 : decode cX9_year 23 = .ok (.iload_n 3, 1) := by decide +kernel
theorem dX9_year_24 : decode cX9_year 24 = .ok (.ifCond .eq 9, 3) := by decide +kernel
theorem dX9_year_27 : decode cX9_year 27 = .ok (.aload_n 0, 1) := by decide +kernel
theorem dX9_year_28 : decode cX9_year 28 = .ok (.iload_n 3, 1) := by decide +kernel
theorem dX9_year_29 : decode cX9_year 29 = .ok (.invokevirtual 130, 3) := by decide +kernel
theorem dX9_year_32 : decode cX9_year 32 = .ok (.ireturn, 1) := by decide +kernel
theorem dX9_year_33 : decode cX9_year 33 = .ok (.aload_n 0, 1) := by decide +kernel
theorem dX9_year_34 : decode cX9_year 34 = .ok (.getfield 16, 3) := by decide +kernel
theorem dX9_year_37 : decode cX9_year 37 = .ok (.iload_n 1, 1) := by decide +kernel
theorem dX9_year_38 : decode cX9_year 38 = .ok (.iaload, 1) := by decide +kernel
theorem dX9_year_39 : decode cX9_year 39 = .ok (.istore 4, 2) := by decide +kernel
theorem dX9_year_41 : decode cX9_year 41 = .ok (.aload_n 0, 1) := by decide +kernel
theorem dX9_year_42 : decode cX9_year 42 = .ok (.getfield 16, 3) := by decide +kernel
theorem dX9_year_45 : decode cX9_year 45 = .ok (.iload_n 1, 1) := by decide +kernel
theorem dX9_year_46 : decode cX9_year 46 = .ok (.iload_n 2, 1) := by decide +kernel
theorem dX9_year_47 : decode cX9_year 47 = .ok (.iastore, 1) := by decide +kernel
theorem dX9_year_48 : decode cX9_year 48 = .ok (.iload 4, 2) := by decide +kernel
theorem dX9_year_50 : decode cX9_year 50 = .ok (.ireturn, 1) := by decide +kernel
theorem dX9_entry_0 : decode cX9_entry 0 = .ok (.iload_n 1, 1) := by decide +kernel
theorem dX9_entry_1 : decode cX9_entry 1 = .ok (.iconst 4, 1) := by decide +kernel
theorem dX9_entry_2 : decode cX9_entry 2 = .ok (.invokestatic 126, 3) := by decide +kernel
theorem dX9_entry_5 : decode cX9_entry 5 = .ok (.ifCond .eq 13, 3) := by decide +kernel
theorem dX9_entry_8 : decode cX9_entry 8 = .ok (.iload_n 2, 1) := by decide +kernel
theorem dX9_entry_9 : decode cX9_entry 9 = .ok (.ifCond .lt 9, 3) := by decide +kernel
theorem dX9_entry_12 : decode cX9_entry 12 = .ok (.iload_n 2, 1) := by decide +kernel
theorem dX9_entry_13 : decode cX9_entry 13 = .ok (.ldc 141, 2) := by decide +kernel
theorem dX9_entry_15 : decode cX9_entry 15 = .ok (.if_icmp .lt 9, 3) := by decide +kernel
theorem dX9_entry_18 : decode cX9_entry 18 = .ok (.aload_n 0, 1) := by decide +kernel
theorem dX9_entry_19 : decode cX9_entry 19 = .ok (.iconst (-1), 1) := by decide +kernel
theorem dX9_entry_20 : decode cX9_entry 20 = .ok (.invokevirtual 130, 3) := by decide +kernel
theorem dX9_entry_23 : decode cX9_entry 23 = .ok (.ireturn, 1) := by decide +kernel
theorem dX9_entry_24 : decode cX9_entry 24 = .ok (.iload_n 2, 1) := by decide +kernel
theorem dX9_entry_25 : decode cX9_entry 25 = .ok (.ifCond .eq 18, 3) := by decide +kernel
theorem dX9_entry_28 : decode cX9_entry 28 = .ok (.iload_n 3, 1) := by decide +kernel
theorem dX9_entry_29 : decode cX9_entry 29 = .ok (.iconst 1, 1) := by decide +kernel
theorem dX9_entry_30 : decode cX9_entry 30 = .ok (.if_icmp .lt 13, 3) := by decide +kernel
theorem dX9_entry_33 : decode cX9_entry 33 = .ok (.iload 4, 2) := by decide +kernel
theorem dX9_entry_35 : decode cX9_entry 35 = .ok (.ifCond .lt 8, 3) := by decide +kernel
theorem dX9_entry_38 : decode cX9_entry 38 = .ok (.iload 5, 2) := by decide +kernel
theorem dX9_entry_40 : decode cX9_entry 40 = .ok (.ifCond .ge 10, 3) := by decide +kernel
theorem dX9_entry_43 : decode cX9_entry 43 = .ok (.aload_n 0, 1) := by decide +kernel
theorem dX9_entry_44 : decode cX9_entry 44 = .ok (.bipush (-4), 2) := by decide +kernel
theorem dX9_entry_46 : decode cX9_entry 46 = .ok (.invokevirtual 130, 3) := by decide +kernel
theorem dX9_entry_49 : decode cX9_entry 49 = .ok (.ireturn, 1) := by decide +kernel
theorem dX9_entry_50 : decode cX9_entry 50 = .ok (.iload_n 3, 1) := by decide +kernel
theorem dX9_entry_51 : decode cX9_entry 51 = .ok (.sipush 200, 3) := by decide +kernel
theorem dX9_entry_54 : decode cX9_entry 54 = .ok (.if_icmp .gt 28, 3) := by decide +kernel
theorem dX9_entry_57 : decode cX9_entry 57 = .ok (.iload 4, 2) := by decide +kernel
theorem dX9_entry_59 : decode cX9_entry 59 = .ok (.bipush 9, 2) := by decide +kernel
theorem dX9_entry_61 : decode cX9_entry 61 = .ok (.if_icmp .gt 21, 3) := by decide +kernel
theorem dX9_entry_64 : decode cX9_entry 64 = .ok (.iload 5, 2) := by decide +kernel
theorem dX9_entry_66 : decode cX9_entry 66 = .ok (.bipush 99, 2) := by decide +kernel
theorem dX9_entry_68 : decode cX9_entry 68 = .ok (.if_icmp .gt 14, 3) := by decide +kernel
theorem dX9_entry_71 : decode cX9_entry 71 = .ok (.aload_n 0, 1) := by decide +kernel
theorem dX9_entry_72 : decode cX9_entry 72 = .ok (.getfield 19, 3) := by decide +kernel
theorem dX9_entry_75 : decode cX9_entry 75 = .ok (.iload_n 1, 1) := by decide +kernel
theorem dX9_entry_76 : decode cX9_entry 76 = .ok (.iaload, 1) := by decide +kernel
theorem dX9_entry_77 : decode cX9_entry 77 = .ok (.bipush 10, 2) := by decide +kernel
theorem dX9_entry_79 : decode cX9_entry 79 = .ok (.if_icmp .ne 10, 3) := by decide +kernel
theorem dX9_entry_82 : decode cX9_entry 82 = .ok (.aload_n 0, 1) := by decide +kernel
theorem dX9_entry_83 : decode cX9_entry 83 = .ok (.bipush (-6), 2) := by decide +kernel
theorem dX9_entry_85 : decode cX9_entry 85 = .ok (.invokevirtual 130, 3) := by decide +kernel
theorem dX9_entry_88 : decode cX9_entry 88 = .ok (.ireturn, 1) := by decide +kernel
theorem dX9_entry_89 : decode cX9_entry 89 = .ok (.bipush 10, 2) := by decide +kernel
theorem dX9_entry_91 : decode cX9_entry 91 = .ok (.iload_n 1, 1) := by decide +kernel
theorem dX9_entry_92 : decode cX9_entry 92 = .ok (.imul, 1) := by decide +kernel
theorem dX9_entry_93 : decode cX9_entry 93 = .ok (.aload_n 0, 1) := by decide +kernel
theorem dX9_entry_94 : decode cX9_entry 94 = .ok (.getfield 19, 3) := by decide +kernel
theorem dX9_entry_97 : decode cX9_entry 97 = .ok (.iload_n 1, 1) := by decide +kernel
theorem dX9_entry_98 : decode cX9_entry 98 = .ok (.iaload, 1) := by decide +kernel
theorem dX9_entry_99 : decode cX9_entry 99 = .ok (.iadd, 1) := by decide +kernel
theorem dX9_entry_100 : decode cX9_entry 100 = .ok (.istore 6, 2) := by decide +kernel
theorem dX9_entry_102 : decode cX9_entry 102 = .ok (.aload_n 0, 1) := by decide +kernel
theorem dX9_entry_103 : decode cX9_entry 103 = .ok (.getfield 22, 3) := by decide +kernel
theorem dX9_entry_106 : decode cX9_entry 106 = .ok (.iload 6, 2) := by decide +kernel
theorem dX9_entry_108 : decode cX9_entry 108 = .ok (.iload_n 2, 1) := by decide +kernel
theorem dX9_entry_109 : decode cX9_entry 109 = .ok (.iastore, 1) := by decide +kernel
theorem dX9_entry_110 : decode cX9_entry 110 = .ok (.aload_n 0, 1) := by decide +kernel
theorem dX9_entry_111 : decode cX9_entry 111 = .ok (.getfield 25, 3) := by decide +kernel
theorem dX9_entry_114 : decode cX9_entry 114 = .ok (.iload 6, 2) := by decide +kernel
theorem dX9_entry_116 : decode cX9_entry 116 = .ok (.iload_n 3, 1) := by decide +kernel
theorem dX9_entry_117 : decode cX9_entry 117 = .ok (.iastore, 1) := by decide +kernel
theorem dX9_entry_118 : decode cX9_entry 118 = .ok (.aload_n 0, 1) := by decide +kernel
theorem dX9_entry_119 : decode cX9_entry 119 = .ok (.getfield 28, 3) := by decide +kernel
theorem dX9_entry_122 : decode cX9_entry 122 = .ok (.iload 6, 2) := by decide +kernel
theorem dX9_entry_124 : decode cX9_entry 124 = .ok (.iload 4, 2) := by decide +kernel
theorem dX9_entry_126 : decode cX9_entry 126 = .ok (.iastore, 1) := by decide +kernel
theorem dX9_entry_127 : decode cX9_entry 127 = .ok (.aload_n 0, 1) := by decide +kernel
theorem dX9_entry_128 : decode cX9_entry 128 = .ok (.getfield 31, 3) := by decide +kernel
theorem dX9_entry_131 : decode cX9_entry 131 = .ok (.iload 6, 2) := by decide +kernel
theorem dX9_entry_133 : decode cX9_entry 133 = .ok (.iload 5, 2) := by decide +kernel
theorem dX9_entry_135 : decode cX9_entry 135 = .ok (.iastore, 1) := by decide +kernel
theorem dX9_entry_136 : decode cX9_entry 136 = .ok (.aload_n 0, 1) := by decide +kernel
theorem dX9_entry_137 : decode cX9_entry 137 = .ok (.getfield 19, 3) := by decide +kernel
theorem dX9_entry_140 : decode cX9_entry 140 = .ok (.iload_n 1, 1) := by decide +kernel
theorem dX9_entry_141 : decode cX9_entry 141 = .ok (.dup2, 1) := by decide +kernel
theorem dX9_entry_142 : decode cX9_entry 142 = .ok (.iaload, 1) := by decide +kernel
theorem dX9_entry_143 : decode cX9_entry 143 = .ok (.iconst 1, 1) := by decide +kernel
theorem dX9_entry_144 : decode cX9_entry 144 = .ok (.iadd, 1) := by decide +kernel
theorem dX9_entry_145 : decode cX9_entry 145 = .ok (.iastore, 1) := by decide +kernel
theorem dX9_entry_146 : decode cX9_entry 146 = .ok (.aload_n 0, 1) := by decide +kernel
theorem dX9_entry_147 : decode cX9_entry 147 = .ok (.getfield 19, 3) := by decide +kernel
theorem dX9_entry_150 : decode cX9_entry 150 = .ok (.iload_n 1, 1) := by decide +kernel
theorem dX9_entry_151 : decode cX9_entry 151 = .ok (.iaload, 1) := by decide +kernel
theorem dX9_entry_152 : decode cX9_entry 152 = .ok (.iconst 1, 1) := by decide +kernel
theorem dX9_entry_153 : decode cX9_entry 153 = .ok (.isub, 1) := by decide +kernel
theorem dX9_entry_154 : decode cX9_entry 154 = .ok (.ireturn, 1) := by decide +kernel
theorem dX9_set_0 : decode cX9_set 0 = .ok (.iload_n 1, 1) := by decide +kernel
theorem dX9_set_1 : decode cX9_set 1 = .ok (.iconst 2, 1) := by decide +kernel
theorem dX9_set_2 : decode cX9_set 2 = .ok (.invokestatic 126, 3) := by decide +kernel
theorem dX9_set_5 : decode cX9_set 5 = .ok (.ifCond .eq 22, 3) := by decide +kernel
theorem dX9_set_8 : decode cX9_set 8 = .ok (.iload_n 2, 1) := by decide +kernel
theorem dX9_set_9 : decode cX9_set 9 = .ok (.iconst 0, 1) := by decide +kernel
theorem dX9_set_10 : decode cX9_set 10 = .ok (.iload_n 1, 1) := by decide +kernel
theorem dX9_set_11 : decode cX9_set 11 = .ok (.ifCond .ne 8, 3) := by decide +kernel
theorem dX9_set_14 : decode cX9_set 14 = .ok (.bipush 50, 2) := by decide +kernel
theorem dX9_set_16 : decode cX9_set 16 = .ok (.goto 5, 3) := by decide +kernel
theorem dX9_set_19 : decode cX9_set 19 = .ok (.bipush 9, 2) := by decide +kernel
theorem dX9_set_21 : decode cX9_set 21 = .ok (.invokestatic 137, 3) := by decide +kernel
theorem dX9_set_24 : decode cX9_set 24 = .ok (.goto 5, 3) := by decide +kernel
theorem dX9_set_27 : decode cX9_set 27 = .ok (.bipush (-2), 2) := by decide +kernel
theorem dX9_set_29 : decode cX9_set 29 = .ok (.istore_n 3, 1) := by decide +kernel
theorem dX9_set_30 : decode cX9_set 30 = .ok (.iload_n 3, 1) := by decide +kernel
theorem dX9_set_31 : decode cX9_set 31 = .ok (.ifCond .eq 9, 3) := by decide +kernel
theorem dX9_set_34 : decode cX9_set 34 = .ok (.aload_n 0, 1) := by decide +kernel
theorem dX9_set_35 : decode cX9_set 35 = .ok (.iload_n 3, 1) := by decide +kernel
theorem dX9_set_36 : decode cX9_set 36 = .ok (.invokevirtual 130, 3) := by decide +kernel
theorem dX9_set_39 : decode cX9_set 39 = .ok (.ireturn, 1) := by decide +kernel
theorem dX9_set_40 : decode cX9_set 40 = .ok (.iload_n 1, 1) := by decide +kernel
theorem dX9_set_41 : decode cX9_set 41 = .ok (.ifCond .ne 10, 3) := by decide +kernel
theorem dX9_set_44 : decode cX9_set 44 = .ok (.aload_n 0, 1) := by decide +kernel
theorem dX9_set_45 : decode cX9_set 45 = .ok (.getfield 40, 3) := by decide +kernel
theorem dX9_set_48 : decode cX9_set 48 = .ok (.goto 7, 3) := by decide +kernel
theorem dX9_set_51 : decode cX9_set 51 = .ok (.aload_n 0, 1) := by decide +kernel
theorem dX9_set_52 : decode cX9_set 52 = .ok (.getfield 44, 3) := by decide +kernel
theorem dX9_set_55 : decode cX9_set 55 = .ok (.istore 4, 2) := by decide +kernel
theorem dX9_set_57 : decode cX9_set 57 = .ok (.iload_n 1, 1) := by decide +kernel
theorem dX9_set_58 : decode cX9_set 58 = .ok (.ifCond .ne 11, 3) := by decide +kernel
theorem dX9_set_61 : decode cX9_set 61 = .ok (.aload_n 0, 1) := by decide +kernel
theorem dX9_set_62 : decode cX9_set 62 = .ok (.iload_n 2, 1) := by decide +kernel
theorem dX9_set_63 : decode cX9_set 63 = .ok (.putfield 40, 3) := by decide +kernel
theorem dX9_set_66 : decode cX9_set 66 = .ok (.goto 8, 3) := by decide +kernel
theorem dX9_set_69 : decode cX9_set 69 = .ok (.aload_n 0, 1) := by decide +kernel
theorem dX9_set_70 : decode cX9_set 70 = .ok (.iload_n 2, 1) := by decide +kernel
theorem dX9_set_71 : decode cX9_set 71 = .ok (.putfield 44, 3) := by decide +kernel
theorem dX9_set_74 : decode cX9_set 74 = .ok (.iload 4, 2) := by decide +kernel
theorem dX9_set_76 : decode cX9_set 76 = .ok (.ireturn, 1) := by decide +kernel
theorem dX9_isEntry_0 : decode cX9_isEntry 0 = .ok (.iload_n 1, 1) := by decide +kernel
theorem dX9_isEntry_1 : decode cX9_isEntry 1 = .ok (.iconst 4, 1) := by decide +kernel
theorem dX9_isEntry_2 : decode cX9_isEntry 2 = .ok (.invokestatic 126, 3) := by decide +kernel
theorem dX9_isEntry_5 : decode cX9_isEntry 5 = .ok (.ifCond .eq 20, 3) := by decide +kernel
theorem dX9_isEntry_8 : decode cX9_isEntry 8 = .ok (.iload_n 2, 1) := by decide +kernel
theorem dX9_isEntry_9 : decode cX9_isEntry 9 = .ok (.aload_n 0, 1) := by decide +kernel
theorem dX9_isEntry_10 : decode cX9_isEntry 10 = .ok (.getfield 19, 3) := by decide +kernel
theorem dX9_isEntry_13 : decode cX9_isEntry 13 = .ok (.iload_n 1, 1) := by decide +kernel
theorem dX9_isEntry_14 : decode cX9_isEntry 14 = .ok (.iaload, 1) := by decide +kernel
theorem dX9_isEntry_15 : decode cX9_isEntry 15 = .ok (.invokestatic 126, 3) := by decide +kernel
theorem dX9_isEntry_18 : decode cX9_isEntry 18 = .ok (.ifCond .eq 7, 3) := by decide +kernel
theorem dX9_isEntry_21 : decode cX9_isEntry 21 = .ok (.iconst 1, 1) := by decide +kernel
theorem dX9_isEntry_22 : decode cX9_isEntry 22 = .ok (.goto 4, 3) := by decide +kernel
theorem dX9_isEntry_25 : decode cX9_isEntry 25 = .ok (.iconst 0, 1) := by decide +kernel
theorem dX9_isEntry_26 : decode cX9_isEntry 26 = .ok (.ireturn, 1) := by decide +kernel
theorem dX9_isBarred_0 : decode cX9_isBarred 0 = .ok (.iconst 0, 1) := by decide +kernel
theorem dX9_isBarred_1 : decode cX9_isBarred 1 = .ok (.istore_n 3, 1) := by decide +kernel
theorem dX9_isBarred_2 : decode cX9_isBarred 2 = .ok (.iconst 0, 1) := by decide +kernel
theorem dX9_isBarred_3 : decode cX9_isBarred 3 = .ok (.istore 4, 2) := by decide +kernel
theorem dX9_isBarred_5 : decode cX9_isBarred 5 = .ok (.iload 4, 2) := by decide +kernel
theorem dX9_isBarred_7 : decode cX9_isBarred 7 = .ok (.aload_n 0, 1) := by decide +kernel
