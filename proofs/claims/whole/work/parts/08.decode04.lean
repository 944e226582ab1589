theorem dX6_head_0 : decode cX6_head 0 = .ok (.aload_n 0, 1) := by decide +kernel
theorem dX6_head_1 : decode cX6_head 1 = .ok (.bipush 64, 2) := by decide +kernel
theorem dX6_head_3 : decode cX6_head 3 = .ok (.invokevirtual 85, 3) := by decide +kernel
theorem dX6_head_6 : decode cX6_head 6 = .ok (.aload_n 0, 1) := by decide +kernel
theorem dX6_head_7 : decode cX6_head 7 = .ok (.bipush 83, 2) := by decide +kernel
theorem dX6_head_9 : decode cX6_head 9 = .ok (.invokevirtual 85, 3) := by decide +kernel
theorem dX6_head_12 : decode cX6_head 12 = .ok (.aload_n 0, 1) := by decide +kernel
theorem dX6_head_13 : decode cX6_head 13 = .ok (.bipush 81, 2) := by decide +kernel
theorem dX6_head_15 : decode cX6_head 15 = .ok (.invokevirtual 85, 3) := by decide +kernel
theorem dX6_head_18 : decode cX6_head 18 = .ok (.aload_n 0, 1) := by decide +kernel
theorem dX6_head_19 : decode cX6_head 19 = .ok (.invokevirtual 89, 3) := by decide +kernel
theorem dX6_head_22 : decode cX6_head 22 = .ok (.aload_n 0, 1) := by decide +kernel
theorem dX6_head_23 : decode cX6_head 23 = .ok (.bipush 83, 2) := by decide +kernel
theorem dX6_head_25 : decode cX6_head 25 = .ok (.bipush 78, 2) := by decide +kernel
theorem dX6_head_27 : decode cX6_head 27 = .ok (.invokevirtual 92, 3) := by decide +kernel
theorem dX6_head_30 : decode cX6_head 30 = .ok (.aload_n 0, 1) := by decide +kernel
theorem dX6_head_31 : decode cX6_head 31 = .ok (.bipush 103, 2) := by decide +kernel
theorem dX6_head_33 : decode cX6_head 33 = .ok (.invokevirtual 85, 3) := by decide +kernel
theorem dX6_head_36 : decode cX6_head 36 = .ok (.aload_n 0, 1) := by decide +kernel
theorem dX6_head_37 : decode cX6_head 37 = .ok (.invokevirtual 89, 3) := by decide +kernel
theorem dX6_head_40 : decode cX6_head 40 = .ok (.aload_n 0, 1) := by decide +kernel
theorem dX6_head_41 : decode cX6_head 41 = .ok (.bipush 76, 2) := by decide +kernel
theorem dX6_head_43 : decode cX6_head 43 = .ok (.bipush 78, 2) := by decide +kernel
theorem dX6_head_45 : decode cX6_head 45 = .ok (.invokevirtual 92, 3) := by decide +kernel
theorem dX6_head_48 : decode cX6_head 48 = .ok (.aload_n 0, 1) := by decide +kernel
theorem dX6_head_49 : decode cX6_head 49 = .ok (.aload_n 0, 1) := by decide +kernel
theorem dX6_head_50 : decode cX6_head 50 = .ok (.getfield 45, 3) := by decide +kernel
theorem dX6_head_53 : decode cX6_head 53 = .ok (.invokevirtual 96, 3) := by decide +kernel
theorem dX6_head_56 : decode cX6_head 56 = .ok (.aload_n 0, 1) := by decide +kernel
theorem dX6_head_57 : decode cX6_head 57 = .ok (.bipush 10, 2) := by decide +kernel
theorem dX6_head_59 : decode cX6_head 59 = .ok (.invokevirtual 85, 3) := by decide +kernel
theorem dX6_head_62 : decode cX6_head 62 = .ok (.return_, 1) := by decide +kernel
theorem dX6_noMate_0 : decode cX6_noMate 0 = .ok (.aload_n 0, 1) := by decide +kernel
theorem dX6_noMate_1 : decode cX6_noMate 1 = .ok (.invokevirtual 89, 3) := by decide +kernel
theorem dX6_noMate_4 : decode cX6_noMate 4 = .ok (.aload_n 0, 1) := by decide +kernel
theorem dX6_noMate_5 : decode cX6_noMate 5 = .ok (.bipush 42, 2) := by decide +kernel
theorem dX6_noMate_7 : decode cX6_noMate 7 = .ok (.invokevirtual 85, 3) := by decide +kernel
theorem dX6_noMate_10 : decode cX6_noMate 10 = .ok (.aload_n 0, 1) := by decide +kernel
theorem dX6_noMate_11 : decode cX6_noMate 11 = .ok (.invokevirtual 89, 3) := by decide +kernel
theorem dX6_noMate_14 : decode cX6_noMate 14 = .ok (.aload_n 0, 1) := by decide +kernel
theorem dX6_noMate_15 : decode cX6_noMate 15 = .ok (.bipush 48, 2) := by decide +kernel
theorem dX6_noMate_17 : decode cX6_noMate 17 = .ok (.invokevirtual 85, 3) := by decide +kernel
theorem dX6_noMate_20 : decode cX6_noMate 20 = .ok (.aload_n 0, 1) := by decide +kernel
theorem dX6_noMate_21 : decode cX6_noMate 21 = .ok (.invokevirtual 89, 3) := by decide +kernel
theorem dX6_noMate_24 : decode cX6_noMate 24 = .ok (.aload_n 0, 1) := by decide +kernel
theorem dX6_noMate_25 : decode cX6_noMate 25 = .ok (.bipush 48, 2) := by decide +kernel
theorem dX6_noMate_27 : decode cX6_noMate 27 = .ok (.invokevirtual 85, 3) := by decide +kernel
theorem dX6_noMate_30 : decode cX6_noMate 30 = .ok (.aload_n 0, 1) := by decide +kernel
theorem dX6_noMate_31 : decode cX6_noMate 31 = .ok (.invokevirtual 89, 3) := by decide +kernel
theorem dX6_noMate_34 : decode cX6_noMate 34 = .ok (.return_, 1) := by decide +kernel
theorem dX6_putRead_0 : decode cX6_putRead 0 = .ok (.iconst 0, 1) := by decide +kernel
theorem dX6_putRead_1 : decode cX6_putRead 1 = .ok (.istore_n 2, 1) := by decide +kernel
theorem dX6_putRead_2 : decode cX6_putRead 2 = .ok (.iload_n 2, 1) := by decide +kernel
theorem dX6_putRead_3 : decode cX6_putRead 3 = .ok (.aload_n 0, 1) := by decide +kernel
theorem dX6_putRead_4 : decode cX6_putRead 4 = .ok (.getfield 48, 3) := by decide +kernel
theorem dX6_putRead_7 : decode cX6_putRead 7 = .ok (.if_icmp .ge 19, 3) := by decide +kernel
theorem dX6_putRead_10 : decode cX6_putRead 10 = .ok (.aload_n 0, 1) := by decide +kernel
theorem dX6_putRead_11 : decode cX6_putRead 11 = .ok (.aload_n 0, 1) := by decide +kernel
theorem dX6_putRead_12 : decode cX6_putRead 12 = .ok (.iload_n 1, 1) := by decide +kernel
theorem dX6_putRead_13 : decode cX6_putRead 13 = .ok (.iload_n 2, 1) := by decide +kernel
theorem dX6_putRead_14 : decode cX6_putRead 14 = .ok (.invokevirtual 69, 3) := by decide +kernel
theorem dX6_putRead_17 : decode cX6_putRead 17 = .ok (.invokevirtual 99, 3) := by decide +kernel
theorem dX6_putRead_20 : decode cX6_putRead 20 = .ok (.iinc 2 1, 3) := by decide +kernel
theorem dX6_putRead_23 : decode cX6_putRead 23 = .ok (.goto (-21), 3) := by decide +kernel
theorem dX6_putRead_26 : decode cX6_putRead 26 = .ok (.return_, 1) := by decide +kernel
theorem dX6_putDifferences_0 : decode cX6_putDifferences 0 = .ok (.iconst 0, 1) := by decide +kernel
theorem dX6_putDifferences_1 : decode cX6_putDifferences 1 = .ok (.istore_n 3, 1) := by decide +kernel
theorem dX6_putDifferences_2 : decode cX6_putDifferences 2 = .ok (.iconst 0, 1) := by decide +kernel
theorem dX6_putDifferences_3 : decode cX6_putDifferences 3 = .ok (.istore 4, 2) := by decide +kernel
theorem dX6_putDifferences_5 : decode cX6_putDifferences 5 = .ok (.iload 4, 2) := by decide +kernel
theorem dX6_putDifferences_7 : decode cX6_putDifferences 7 = .ok (.aload_n 0, 1) := by decide +kernel
theorem dX6_putDifferences_8 : decode cX6_putDifferences 8 = .ok (.getfield 48, 3) := by decide +kernel
theorem dX6_putDifferences_11 : decode cX6_putDifferences 11 = .ok (.if_icmp .ge 54, 3) := by decide +kernel
theorem dX6_putDifferences_14 : decode cX6_putDifferences 14 = .ok (.aload_n 0, 1) := by decide +kernel
theorem dX6_putDifferences_15 : decode cX6_putDifferences 15 = .ok (.getfield 7, 3) := by decide +kernel
theorem dX6_putDifferences_18 : decode cX6_putDifferences 18 = .ok (.iload_n 1, 1) := by decide +kernel
theorem dX6_putDifferences_19 : decode cX6_putDifferences 19 = .ok (.iload 4, 2) := by decide +kernel
theorem dX6_putDifferences_21 : decode cX6_putDifferences 21 = .ok (.iadd, 1) := by decide +kernel
theorem dX6_putDifferences_22 : decode cX6_putDifferences 22 = .ok (.iaload, 1) := by decide +kernel
theorem dX6_putDifferences_23 : decode cX6_putDifferences 23 = .ok (.aload_n 0, 1) := by decide +kernel
theorem dX6_putDifferences_24 : decode cX6_putDifferences 24 = .ok (.iload_n 2, 1) := by decide +kernel
theorem dX6_putDifferences_25 : decode cX6_putDifferences 25 = .ok (.iload 4, 2) := by decide +kernel
theorem dX6_putDifferences_27 : decode cX6_putDifferences 27 = .ok (.invokevirtual 69, 3) := by decide +kernel
theorem dX6_putDifferences_30 : decode cX6_putDifferences 30 = .ok (.if_icmp .ne 9, 3) := by decide +kernel
theorem dX6_putDifferences_33 : decode cX6_putDifferences 33 = .ok (.iinc 3 1, 3) := by decide +kernel
theorem dX6_putDifferences_36 : decode cX6_putDifferences 36 = .ok (.goto 23, 3) := by decide +kernel
theorem dX6_putDifferences_39 : decode cX6_putDifferences 39 = .ok (.aload_n 0, 1) := by decide +kernel
theorem dX6_putDifferences_40 : decode cX6_putDifferences 40 = .ok (.iload_n 3, 1) := by decide +kernel
theorem dX6_putDifferences_41 : decode cX6_putDifferences 41 = .ok (.invokevirtual 96, 3) := by decide +kernel
theorem dX6_putDifferences_44 : decode cX6_putDifferences 44 = .ok (.aload_n 0, 1) := by decide +kernel
theorem dX6_putDifferences_45 : decode cX6_putDifferences 45 = .ok (.aload_n 0, 1) := by decide +kernel
theorem dX6_putDifferences_46 : decode cX6_putDifferences 46 = .ok (.getfield 7, 3) := by decide +kernel
theorem dX6_putDifferences_49 : decode cX6_putDifferences 49 = .ok (.iload_n 1, 1) := by decide +kernel
theorem dX6_putDifferences_50 : decode cX6_putDifferences 50 = .ok (.iload 4, 2) := by decide +kernel
theorem dX6_putDifferences_52 : decode cX6_putDifferences 52 = .ok (.iadd, 1) := by decide +kernel
theorem dX6_putDifferences_53 : decode cX6_putDifferences 53 = .ok (.iaload, 1) := by decide +kernel
theorem dX6_putDifferences_54 : decode cX6_putDifferences 54 = .ok (.invokevirtual 99, 3) := by decide +kernel
theorem dX6_putDifferences_57 : decode cX6_putDifferences 57 = .ok (.iconst 0, 1) := by decide +kernel
theorem dX6_putDifferences_58 : decode cX6_putDifferences 58 = .ok (.istore_n 3, 1) := by decide +kernel
theorem dX6_putDifferences_59 : decode cX6_putDifferences 59 = .ok (.iinc 4 1, 3) := by decide +kernel
theorem dX6_putDifferences_62 : decode cX6_putDifferences 62 = .ok (.goto (-57), 3) := by decide +kernel
theorem dX6_putDifferences_65 : decode cX6_putDifferences 65 = .ok (.aload_n 0, 1) := by decide +kernel
theorem dX6_putDifferences_66 : decode cX6_putDifferences 66 = .ok (.iload_n 3, 1) := by decide +kernel
theorem dX6_putDifferences_67 : decode cX6_putDifferences 67 = .ok (.invokevirtual 96, 3) := by decide +kernel
theorem dX6_putDifferences_70 : decode cX6_putDifferences 70 = .ok (.return_, 1) := by decide +kernel
theorem dX6_quality_0 : decode cX6_quality 0 = .ok (.iload_n 1, 1) := by decide +kernel
theorem dX6_quality_1 : decode cX6_quality 1 = .ok (.aload_n 0, 1) := by decide +kernel
theorem dX6_quality_2 : decode cX6_quality 2 = .ok (.getfield 76, 3) := by decide +kernel
theorem dX6_quality_5 : decode cX6_quality 5 = .ok (.if_icmp .eq 5, 3) := by decide +kernel
theorem dX6_quality_8 : decode cX6_quality 8 = .ok (.iconst 0, 1) := by decide +kernel
theorem dX6_quality_9 : decode cX6_quality 9 = .ok (.ireturn, 1) := by decide +kernel
theorem dX6_quality_10 : decode cX6_quality 10 = .ok (.iconst 0, 1) := by decide +kernel
theorem dX6_quality_11 : decode cX6_quality 11 = .ok (.istore_n 2, 1) := by decide +kernel
theorem dX6_quality_12 : decode cX6_quality 12 = .ok (.iconst 0, 1) := by decide +kernel
theorem dX6_quality_13 : decode cX6_quality 13 = .ok (.istore_n 3, 1) := by decide +kernel
theorem dX6_quality_14 : decode cX6_quality 14 = .ok (.iload_n 3, 1) := by decide +kernel
theorem dX6_quality_15 : decode cX6_quality 15 = .ok (.aload_n 0, 1) := by decide +kernel
theorem dX6_quality_16 : decode cX6_quality 16 = .ok (.getfield 73, 3) := by decide +kernel
theorem dX6_quality_19 : decode cX6_quality 19 = .ok (.if_icmp .ge 32, 3) := by decide +kernel
theorem dX6_quality_22 : decode cX6_quality 22 = .ok (.aload_n 0, 1) := by decide +kernel
theorem dX6_quality_23 : decode cX6_quality 23 = .ok (.getfield 35, 3) := by decide +kernel
theorem dX6_quality_26 : decode cX6_quality 26 = .ok (.iload_n 3, 1) := by decide +kernel
theorem dX6_quality_27 : decode cX6_quality 27 = .ok (.iaload, 1) := by decide +kernel
theorem dX6_quality_28 : decode cX6_quality 28 = .ok (.aload_n 0, 1) := by decide +kernel
theorem dX6_quality_29 : decode cX6_quality 29 = .ok (.getfield 35, 3) := by decide +kernel
theorem dX6_quality_32 : decode cX6_quality 32 = .ok (.iload_n 1, 1) := by decide +kernel
theorem dX6_quality_33 : decode cX6_quality 33 = .ok (.iaload, 1) := by decide +kernel
theorem dX6_quality_34 : decode cX6_quality 34 = .ok (.if_icmp .ne 9, 3) := by decide +kernel
theorem dX6_quality_37 : decode cX6_quality 37 = .ok (.iload_n 2, 1) := by decide +kernel
theorem dX6_quality_38 : decode cX6_quality 38 = .ok (.iconst 1, 1) := by decide +kernel
theorem dX6_quality_39 : decode cX6_quality 39 = .ok (.iadd, 1) := by decide +kernel
theorem dX6_quality_40 : decode cX6_quality 40 = .ok (.goto 4, 3) := by decide +kernel
theorem dX6_quality_43 : decode cX6_quality 43 = .ok (.iload_n 2, 1) := by decide +kernel
theorem dX6_quality_44 : decode cX6_quality 44 = .ok (.istore_n 2, 1) := by decide +kernel
theorem dX6_quality_45 : decode cX6_quality 45 = .ok (.iinc 3 1, 3) := by decide +kernel
theorem dX6_quality_48 : decode cX6_quality 48 = .ok (.goto (-34), 3) := by decide +kernel
theorem dX6_quality_51 : decode cX6_quality 51 = .ok (.aload_n 0, 1) := by decide +kernel
theorem dX6_quality_52 : decode cX6_quality 52 = .ok (.getfield 73, 3) := by decide +kernel
theorem dX6_quality_55 : decode cX6_quality 55 = .ok (.iconst 1, 1) := by decide +kernel
theorem dX6_quality_56 : decode cX6_quality 56 = .ok (.if_icmp .ne 8, 3) := by decide +kernel
theorem dX6_quality_59 : decode cX6_quality 59 = .ok (.bipush 60, 2) := by decide +kernel
theorem dX6_quality_61 : decode cX6_quality 61 = .ok (.goto 23, 3) := by decide +kernel
theorem dX6_quality_64 : decode cX6_quality 64 = .ok (.iload_n 2, 1) := by decide +kernel
theorem dX6_quality_65 : decode cX6_quality 65 = .ok (.iconst 1, 1) := by decide +kernel
theorem dX6_quality_66 : decode cX6_quality 66 = .ok (.if_icmp .ne 8, 3) := by decide +kernel
theorem dX6_quality_69 : decode cX6_quality 69 = .ok (.bipush 40, 2) := by decide +kernel
theorem dX6_quality_71 : decode cX6_quality 71 = .ok (.goto 13, 3) := by decide +kernel
theorem dX6_quality_74 : decode cX6_quality 74 = .ok (.iload_n 2, 1) := by decide +kernel
theorem dX6_quality_75 : decode cX6_quality 75 = .ok (.iconst 2, 1) := by decide +kernel
theorem dX6_quality_76 : decode cX6_quality 76 = .ok (.if_icmp .ne 7, 3) := by decide +kernel
theorem dX6_quality_79 : decode cX6_quality 79 = .ok (.iconst 3, 1) := by decide +kernel
theorem dX6_quality_80 : decode cX6_quality 80 = .ok (.goto 4, 3) := by decide +kernel
theorem dX6_quality_83 : decode cX6_quality 83 = .ok (.iconst 0, 1) := by decide +kernel
theorem dX6_quality_84 : decode cX6_quality 84 = .ok (.ireturn, 1) := by decide +kernel
theorem dX6_seek_0 : decode cX6_seek 0 = .ok (.aload_n 0, 1) := by decide +kernel
theorem dX6_seek_1 : decode cX6_seek 1 = .ok (.iconst 0, 1) := by decide +kernel
theorem dX6_seek_2 : decode cX6_seek 2 = .ok (.putfield 73, 3) := by decide +kernel
theorem dX6_seek_5 : decode cX6_seek 5 = .ok (.aload_n 0, 1) := by decide +kernel
theorem dX6_seek_6 : decode cX6_seek 6 = .ok (.iconst (-1), 1) := by decide +kernel
theorem dX6_seek_7 : decode cX6_seek 7 = .ok (.putfield 76, 3) := by decide +kernel
theorem dX6_seek_10 : decode cX6_seek 10 = .ok (.iconst 0, 1) := by decide +kernel
theorem dX6_seek_11 : decode cX6_seek 11 = .ok (.istore_n 2, 1) := by decide +kernel
theorem dX6_seek_12 : decode cX6_seek 12 = .ok (.iload_n 2, 1) := by decide +kernel
theorem dX6_seek_13 : decode cX6_seek 13 = .ok (.aload_n 0, 1) := by decide +kernel
theorem dX6_seek_14 : decode cX6_seek 14 = .ok (.getfield 48, 3) := by decide +kernel
theorem dX6_seek_17 : decode cX6_seek 17 = .ok (.iadd, 1) := by decide +kernel
theorem dX6_seek_18 : decode cX6_seek 18 = .ok (.aload_n 0, 1) := by decide +kernel
theorem dX6_seek_19 : decode cX6_seek 19 = .ok (.getfield 45, 3) := by decide +kernel
theorem dX6_seek_22 : decode cX6_seek 22 = .ok (.if_icmp .gt 113, 3) := by decide +kernel
theorem dX6_seek_25 : decode cX6_seek 25 = .ok (.iconst 0, 1) := by decide +kernel
theorem dX6_seek_26 : decode cX6_seek 26 = .ok (.istore_n 3, 1) := by decide +kernel
theorem dX6_seek_27 : decode cX6_seek 27 = .ok (.iload_n 3, 1) := by decide +kernel
theorem dX6_seek_28 : decode cX6_seek 28 = .ok (.iconst 2, 1) := by decide +kernel
theorem dX6_seek_29 : decode cX6_seek 29 = .ok (.if_icmp .ge 100, 3) := by decide +kernel
theorem dX6_seek_32 : decode cX6_seek 32 = .ok (.aload_n 0, 1) := by decide +kernel
theorem dX6_seek_33 : decode cX6_seek 33 = .ok (.iload_n 2, 1) := by decide +kernel
theorem dX6_seek_34 : decode cX6_seek 34 = .ok (.iload_n 3, 1) := by decide +kernel
theorem dX6_seek_35 : decode cX6_seek 35 = .ok (.invokevirtual 79, 3) := by decide +kernel
theorem dX6_seek_38 : decode cX6_seek 38 = .ok (.istore 4, 2) := by decide +kernel
theorem dX6_seek_40 : decode cX6_seek 40 = .ok (.iload 4, 2) := by decide +kernel
theorem dX6_seek_42 : decode cX6_seek 42 = .ok (.iload_n 1, 1) := by decide +kernel
theorem dX6_seek_43 : decode cX6_seek 43 = .ok (.if_icmp .gt 80, 3) := by decide +kernel
theorem dX6_seek_46 : decode cX6_seek 46 = .ok (.aload_n 0, 1) := by decide +kernel
theorem dX6_seek_47 : decode cX6_seek 47 = .ok (.getfield 29, 3) := by decide +kernel
theorem dX6_seek_50 : decode cX6_seek 50 = .ok (.aload_n 0, 1) := by decide +kernel
theorem dX6_seek_51 : decode cX6_seek 51 = .ok (.getfield 73, 3) := by decide +kernel
theorem dX6_seek_54 : decode cX6_seek 54 = .ok (.iload_n 2, 1) := by decide +kernel
theorem dX6_seek_55 : decode cX6_seek 55 = .ok (.iastore, 1) := by decide +kernel
theorem dX6_seek_56 : decode cX6_seek 56 = .ok (.aload_n 0, 1) := by decide +kernel
theorem dX6_seek_57 : decode cX6_seek 57 = .ok (.getfield 32, 3) := by decide +kernel
theorem dX6_seek_60 : decode cX6_seek 60 = .ok (.aload_n 0, 1) := by decide +kernel
theorem dX6_seek_61 : decode cX6_seek 61 = .ok (.getfield 73, 3) := by decide +kernel
theorem dX6_seek_64 : decode cX6_seek 64 = .ok (.iload_n 3, 1) := by decide +kernel
theorem dX6_seek_65 : decode cX6_seek 65 = .ok (.iastore, 1) := by decide +kernel
theorem dX6_seek_66 : decode cX6_seek 66 = .ok (.aload_n 0, 1) := by decide +kernel
theorem dX6_seek_67 : decode cX6_seek 67 = .ok (.getfield 35, 3) := by decide +kernel
theorem dX6_seek_70 : decode cX6_seek 70 = .ok (.aload_n 0, 1) := by decide +kernel
theorem dX6_seek_71 : decode cX6_seek 71 = .ok (.getfield 73, 3) := by decide +kernel
theorem dX6_seek_74 : decode cX6_seek 74 = .ok (.iload 4, 2) := by decide +kernel
theorem dX6_seek_76 : decode cX6_seek 76 = .ok (.iastore, 1) := by decide +kernel
theorem dX6_seek_77 : decode cX6_seek 77 = .ok (.aload_n 0, 1) := by decide +kernel
theorem dX6_seek_78 : decode cX6_seek 78 = .ok (.aload_n 0, 1) := by decide +kernel
theorem dX6_seek_79 : decode cX6_seek 79 = .ok (.getfield 76, 3) := by decide +kernel
theorem dX6_seek_82 : decode cX6_seek 82 = .ok (.ifCond .lt 17, 3) := by decide +kernel
theorem dX6_seek_85 : decode cX6_seek 85 = .ok (.iload 4, 2) := by decide +kernel
theorem dX6_seek_87 : decode cX6_seek 87 = .ok (.aload_n 0, 1) := by decide +kernel
theorem dX6_seek_88 : decode cX6_seek 88 = .ok (.getfield 35, 3) := by decide +kernel
theorem dX6_seek_91 : decode cX6_seek 91 = .ok (.aload_n 0, 1) := by decide +kernel
theorem dX6_seek_92 : decode cX6_seek 92 = .ok (.getfield 76, 3) := by decide +kernel
theorem dX6_seek_95 : decode cX6_seek 95 = .ok (.iaload, 1) := by decide +kernel
theorem dX6_seek_96 : decode cX6_seek 96 = .ok (.if_icmp .ge 10, 3) := by decide +kernel
theorem dX6_seek_99 : decode cX6_seek 99 = .ok (.aload_n 0, 1) := by decide +kernel
theorem dX6_seek_100 : decode cX6_seek 100 = .ok (.getfield 73, 3) := by decide +kernel
theorem dX6_seek_103 : decode cX6_seek 103 = .ok (.goto 7, 3) := by decide +kernel
theorem dX6_seek_106 : decode cX6_seek 106 = .ok (.aload_n 0, 1) := by decide +kernel
theorem dX6_seek_107 : decode cX6_seek 107 = .ok (.getfield 76, 3) := by decide +kernel
theorem dX6_seek_110 : decode cX6_seek 110 = .ok (.putfield 76, 3) := by decide +kernel
theorem dX6_seek_113 : decode cX6_seek 113 = .ok (.aload_n 0, 1) := by decide +kernel
theorem dX6_seek_114 : decode cX6_seek 114 = .ok (.dup, 1) := by decide +kernel
theorem dX6_seek_115 : decode cX6_seek 115 = .ok (.getfield 73, 3) := by decide +kernel
theorem dX6_seek_118 : decode cX6_seek 118 = .ok (.iconst 1, 1) := by decide +kernel
theorem dX6_seek_119 : decode cX6_seek 119 = .ok (.iadd, 1) := by decide +kernel
theorem dX6_seek_120 : decode cX6_seek 120 = .ok (.putfield 73, 3) := by decide +kernel
theorem dX6_seek_123 : decode cX6_seek 123 = .ok (.iinc 3 1, 3) := by decide +kernel
theorem dX6_seek_126 : decode cX6_seek 126 = .ok (.goto (-99), 3) := by decide +kernel
theorem dX6_seek_129 : decode cX6_seek 129 = .ok (.iinc 2 1, 3) := by decide +kernel
theorem dX6_seek_132 : decode cX6_seek 132 = .ok (.goto (-120), 3) := by decide +kernel
theorem dX6_seek_135 : decode cX6_seek 135 = .ok (.return_, 1) := by decide +kernel
theorem dX6_putHit_0 : decode cX6_putHit 0 = .ok (.iload_n 1, 1) := by decide +kernel
theorem dX6_putHit_1 : decode cX6_putHit 1 = .ok (.aload_n 0, 1) := by decide +kernel
theorem dX6_putHit_2 : decode cX6_putHit 2 = .ok (.getfield 76, 3) := by decide +kernel
theorem dX6_putHit_5 : decode cX6_putHit 5 = .ok (.if_icmp .ne 7, 3) := by decide +kernel
theorem dX6_putHit_8 : decode cX6_putHit 8 = .ok (.iconst 1, 1) := by decide +kernel
theorem dX6_putHit_9 : decode cX6_putHit 9 = .ok (.goto 4, 3) := by decide +kernel
theorem dX6_putHit_12 : decode cX6_putHit 12 = .ok (.iconst 0, 1) := by decide +kernel
theorem dX6_putHit_13 : decode cX6_putHit 13 = .ok (.istore_n 2, 1) := by decide +kernel
theorem dX6_putHit_14 : decode cX6_putHit 14 = .ok (.aload_n 0, 1) := by decide +kernel
theorem dX6_putHit_15 : decode cX6_putHit 15 = .ok (.bipush 114, 2) := by decide +kernel
theorem dX6_putHit_17 : decode cX6_putHit 17 = .ok (.invokevirtual 85, 3) := by decide +kernel
theorem dX6_putHit_20 : decode cX6_putHit 20 = .ok (.aload_n 0, 1) := by decide +kernel
theorem dX6_putHit_21 : decode cX6_putHit 21 = .ok (.aload_n 0, 1) := by decide +kernel
theorem dX6_putHit_22 : decode cX6_putHit 22 = .ok (.getfield 102, 3) := by decide +kernel
theorem dX6_putHit_25 : decode cX6_putHit 25 = .ok (.iconst 1, 1) := by decide +kernel
theorem dX6_putHit_26 : decode cX6_putHit 26 = .ok (.iadd, 1) := by decide +kernel
theorem dX6_putHit_27 : decode cX6_putHit 27 = .ok (.invokevirtual 96, 3) := by decide +kernel
theorem dX6_putHit_30 : decode cX6_putHit 30 = .ok (.aload_n 0, 1) := by decide +kernel
theorem dX6_putHit_31 : decode cX6_putHit 31 = .ok (.invokevirtual 89, 3) := by decide +kernel
theorem dX6_putHit_34 : decode cX6_putHit 34 = .ok (.aload_n 0, 1) := by decide +kernel
theorem dX6_putHit_35 : decode cX6_putHit 35 = .ok (.aload_n 0, 1) := by decide +kernel
theorem dX6_putHit_36 : decode cX6_putHit 36 = .ok (.getfield 32, 3) := by decide +kernel
theorem dX6_putHit_39 : decode cX6_putHit 39 = .ok (.iload_n 1, 1) := by decide +kernel
theorem dX6_putHit_40 : decode cX6_putHit 40 = .ok (.iaload, 1) := by decide +kernel
theorem dX6_putHit_41 : decode cX6_putHit 41 = .ok (.iconst 1, 1) := by decide +kernel
theorem dX6_putHit_42 : decode cX6_putHit 42 = .ok (.if_icmp .ne 8, 3) := by decide +kernel
theorem dX6_putHit_45 : decode cX6_putHit 45 = .ok (.bipush 16, 2) := by decide +kernel
theorem dX6_putHit_47 : decode cX6_putHit 47 = .ok (.goto 4, 3) := by decide +kernel
theorem dX6_putHit_50 : decode cX6_putHit 50 = .ok (.iconst 0, 1) := by decide +kernel
theorem dX6_putHit_51 : decode cX6_putHit 51 = .ok (.iload_n 2, 1) := by decide +kernel
theorem dX6_putHit_52 : decode cX6_putHit 52 = .ok (.ifCond .eq 7, 3) := by decide +kernel
theorem dX6_putHit_55 : decode cX6_putHit 55 = .ok (.iconst 0, 1) := by decide +kernel
theorem dX6_putHit_56 : decode cX6_putHit 56 = .ok (.goto 6, 3) := by decide +kernel
theorem dX6_putHit_59 : decode cX6_putHit 59 = .ok (.sipush 256, 3) := by decide +kernel
theorem dX6_putHit_62 : decode cX6_putHit 62 = .ok (.iadd, 1) := by decide +kernel
theorem dX6_putHit_63 : decode cX6_putHit 63 = .ok (.invokevirtual 96, 3) := by decide +kernel
theorem dX6_putHit_66 : decode cX6_putHit 66 = .ok (.aload_n 0, 1) := by decide +kernel
theorem dX6_putHit_67 : decode cX6_putHit 67 = .ok (.invokevirtual 89, 3) := by decide +kernel
theorem dX6_putHit_70 : decode cX6_putHit 70 = .ok (.aload_n 0, 1) := by decide +kernel
theorem dX6_putHit_71 : decode cX6_putHit 71 = .ok (.bipush 103, 2) := by decide +kernel
theorem dX6_putHit_73 : decode cX6_putHit 73 = .ok (.invokevirtual 85, 3) := by decide +kernel
theorem dX6_putHit_76 : decode cX6_putHit 76 = .ok (.aload_n 0, 1) := by decide +kernel
theorem dX6_putHit_77 : decode cX6_putHit 77 = .ok (.invokevirtual 89, 3) := by decide +kernel
theorem dX6_putHit_80 : decode cX6_putHit 80 = .ok (.aload_n 0, 1) := by decide +kernel
theorem dX6_putHit_81 : decode cX6_putHit 81 = .ok (.aload_n 0, 1) := by decide +kernel
theorem dX6_putHit_82 : decode cX6_putHit 82 = .ok (.getfield 29, 3) := by decide +kernel
theorem dX6_putHit_85 : decode cX6_putHit 85 = .ok (.iload_n 1, 1) := by decide +kernel
theorem dX6_putHit_86 : decode cX6_putHit 86 = .ok (.iaload, 1) := by decide +kernel
theorem dX6_putHit_87 : decode cX6_putHit 87 = .ok (.iconst 1, 1) := by decide +kernel
theorem dX6_putHit_88 : decode cX6_putHit 88 = .ok (.iadd, 1) := by decide +kernel
theorem dX6_putHit_89 : decode cX6_putHit 89 = .ok (.invokevirtual 96, 3) := by decide +kernel
theorem dX6_putHit_92 : decode cX6_putHit 92 = .ok (.aload_n 0, 1) := by decide +kernel
theorem dX6_putHit_93 : decode cX6_putHit 93 = .ok (.invokevirtual 89, 3) := by decide +kernel
theorem dX6_putHit_96 : decode cX6_putHit 96 = .ok (.aload_n 0, 1) := by decide +kernel
theorem dX6_putHit_97 : decode cX6_putHit 97 = .ok (.aload_n 0, 1) := by decide +kernel
theorem dX6_putHit_98 : decode cX6_putHit 98 = .ok (.iload_n 1, 1) := by decide +kernel
theorem dX6_putHit_99 : decode cX6_putHit 99 = .ok (.invokevirtual 105, 3) := by decide +kernel
theorem dX6_putHit_102 : decode cX6_putHit 102 = .ok (.invokevirtual 96, 3) := by decide +kernel
theorem dX6_putHit_105 : decode cX6_putHit 105 = .ok (.aload_n 0, 1) := by decide +kernel
theorem dX6_putHit_106 : decode cX6_putHit 106 = .ok (.invokevirtual 89, 3) := by decide +kernel
theorem dX6_putHit_109 : decode cX6_putHit 109 = .ok (.aload_n 0, 1) := by decide +kernel
theorem dX6_putHit_110 : decode cX6_putHit 110 = .ok (.aload_n 0, 1) := by decide +kernel
theorem dX6_putHit_111 : decode cX6_putHit 111 = .ok (.getfield 48, 3) := by decide +kernel
theorem dX6_putHit_114 : decode cX6_putHit 114 = .ok (.invokevirtual 96, 3) := by decide +kernel
theorem dX6_putHit_117 : decode cX6_putHit 117 = .ok (.aload_n 0, 1) := by decide +kernel
theorem dX6_putHit_118 : decode cX6_putHit 118 = .ok (.bipush 77, 2) := by decide +kernel
theorem dX6_putHit_120 : decode cX6_putHit 120 = .ok (.invokevirtual 85, 3) := by decide +kernel
theorem dX6_putHit_123 : decode cX6_putHit 123 = .ok (.aload_n 0, 1) := by decide +kernel
theorem dX6_putHit_124 : decode cX6_putHit 124 = .ok (.invokevirtual 108, 3) := by decide +kernel
theorem dX6_putHit_127 : decode cX6_putHit 127 = .ok (.iload_n 2, 1) := by decide +kernel
theorem dX6_putHit_128 : decode cX6_putHit 128 = .ok (.ifCond .eq 16, 3) := by decide +kernel
theorem dX6_putHit_131 : decode cX6_putHit 131 = .ok (.aload_n 0, 1) := by decide +kernel
theorem dX6_putHit_132 : decode cX6_putHit 132 = .ok (.aload_n 0, 1) := by decide +kernel
theorem dX6_putHit_133 : decode cX6_putHit 133 = .ok (.getfield 32, 3) := by decide +kernel
theorem dX6_putHit_136 : decode cX6_putHit 136 = .ok (.iload_n 1, 1) := by decide +kernel
theorem dX6_putHit_137 : decode cX6_putHit 137 = .ok (.iaload, 1) := by decide +kernel
theorem dX6_putHit_138 : decode cX6_putHit 138 = .ok (.invokevirtual 111, 3) := by decide +kernel
theorem dX6_putHit_141 : decode cX6_putHit 141 = .ok (.goto 9, 3) := by decide +kernel
theorem dX6_putHit_144 : decode cX6_putHit 144 = .ok (.aload_n 0, 1) := by decide +kernel
theorem dX6_putHit_145 : decode cX6_putHit 145 = .ok (.bipush 42, 2) := by decide +kernel
theorem dX6_putHit_147 : decode cX6_putHit 147 = .ok (.invokevirtual 85, 3) := by decide +kernel
theorem dX6_putHit_150 : decode cX6_putHit 150 = .ok (.aload_n 0, 1) := by decide +kernel
theorem dX6_putHit_151 : decode cX6_putHit 151 = .ok (.invokevirtual 89, 3) := by decide +kernel
theorem dX6_putHit_154 : decode cX6_putHit 154 = .ok (.aload_n 0, 1) := by decide +kernel
theorem dX6_putHit_155 : decode cX6_putHit 155 = .ok (.bipush 42, 2) := by decide +kernel
theorem dX6_putHit_157 : decode cX6_putHit 157 = .ok (.invokevirtual 85, 3) := by decide +kernel
theorem dX6_putHit_160 : decode cX6_putHit 160 = .ok (.aload_n 0, 1) := by decide +kernel
theorem dX6_putHit_161 : decode cX6_putHit 161 = .ok (.invokevirtual 89, 3) := by decide +kernel
theorem dX6_putHit_164 : decode cX6_putHit 164 = .ok (.aload_n 0, 1) := by decide +kernel
theorem dX6_putHit_165 : decode cX6_putHit 165 = .ok (.bipush 78, 2) := by decide +kernel
theorem dX6_putHit_167 : decode cX6_putHit 167 = .ok (.bipush 77, 2) := by decide +kernel
theorem dX6_putHit_169 : decode cX6_putHit 169 = .ok (.invokevirtual 92, 3) := by decide +kernel
theorem dX6_putHit_172 : decode cX6_putHit 172 = .ok (.aload_n 0, 1) := by decide +kernel
theorem dX6_putHit_173 : decode cX6_putHit 173 = .ok (.bipush 105, 2) := by decide +kernel
theorem dX6_putHit_175 : decode cX6_putHit 175 = .ok (.invokevirtual 85, 3) := by decide +kernel
theorem dX6_putHit_178 : decode cX6_putHit 178 = .ok (.aload_n 0, 1) := by decide +kernel
theorem dX6_putHit_179 : decode cX6_putHit 179 = .ok (.bipush 58, 2) := by decide +kernel
theorem dX6_putHit_181 : decode cX6_putHit 181 = .ok (.invokevirtual 85, 3) := by decide +kernel
theorem dX6_putHit_184 : decode cX6_putHit 184 = .ok (.aload_n 0, 1) := by decide +kernel
theorem dX6_putHit_185 : decode cX6_putHit 185 = .ok (.aload_n 0, 1) := by decide +kernel
theorem dX6_putHit_186 : decode cX6_putHit 186 = .ok (.getfield 35, 3) := by decide +kernel
theorem dX6_putHit_189 : decode cX6_putHit 189 = .ok (.iload_n 1, 1) := by decide +kernel
theorem dX6_putHit_190 : decode cX6_putHit 190 = .ok (.iaload, 1) := by decide +kernel
theorem dX6_putHit_191 : decode cX6_putHit 191 = .ok (.invokevirtual 96, 3) := by decide +kernel
theorem dX6_putHit_194 : decode cX6_putHit 194 = .ok (.aload_n 0, 1) := by decide +kernel
theorem dX6_putHit_195 : decode cX6_putHit 195 = .ok (.invokevirtual 89, 3) := by decide +kernel
theorem dX6_putHit_198 : decode cX6_putHit 198 = .ok (.aload_n 0, 1) := by decide +kernel
theorem dX6_putHit_199 : decode cX6_putHit 199 = .ok (.bipush 77, 2) := by decide +kernel
theorem dX6_putHit_201 : decode cX6_putHit 201 = .ok (.bipush 68, 2) := by decide +kernel
theorem dX6_putHit_203 : decode cX6_putHit 203 = .ok (.invokevirtual 92, 3) := by decide +kernel
theorem dX6_putHit_206 : decode cX6_putHit 206 = .ok (.aload_n 0, 1) := by decide +kernel
theorem dX6_putHit_207 : decode cX6_putHit 207 = .ok (.bipush 90, 2) := by decide +kernel
theorem dX6_putHit_209 : decode cX6_putHit 209 = .ok (.invokevirtual 85, 3) := by decide +kernel
theorem dX6_putHit_212 : decode cX6_putHit 212 = .ok (.aload_n 0, 1) := by decide +kernel
theorem dX6_putHit_213 : decode cX6_putHit 213 = .ok (.bipush 58, 2) := by decide +kernel
theorem dX6_putHit_215 : decode cX6_putHit 215 = .ok (.invokevirtual 85, 3) := by decide +kernel
theorem dX6_putHit_218 : decode cX6_putHit 218 = .ok (.aload_n 0, 1) := by decide +kernel
theorem dX6_putHit_219 : decode cX6_putHit 219 = .ok (.aload_n 0, 1) := by decide +kernel
theorem dX6_putHit_220 : decode cX6_putHit 220 = .ok (.getfield 29, 3) := by decide +kernel
theorem dX6_putHit_223 : decode cX6_putHit 223 = .ok (.iload_n 1, 1) := by decide +kernel
theorem dX6_putHit_224 : decode cX6_putHit 224 = .ok (.iaload, 1) := by decide +kernel
theorem dX6_putHit_225 : decode cX6_putHit 225 = .ok (.aload_n 0, 1) := by decide +kernel
theorem dX6_putHit_226 : decode cX6_putHit 226 = .ok (.getfield 32, 3) := by decide +kernel
theorem dX6_putHit_229 : decode cX6_putHit 229 = .ok (.iload_n 1, 1) := by decide +kernel
theorem dX6_putHit_230 : decode cX6_putHit 230 = .ok (.iaload, 1) := by decide +kernel
theorem dX6_putHit_231 : decode cX6_putHit 231 = .ok (.invokevirtual 114, 3) := by decide +kernel
theorem dX6_putHit_234 : decode cX6_putHit 234 = .ok (.aload_n 0, 1) := by decide +kernel
theorem dX6_putHit_235 : decode cX6_putHit 235 = .ok (.bipush 10, 2) := by decide +kernel
theorem dX6_putHit_237 : decode cX6_putHit 237 = .ok (.invokevirtual 85, 3) := by decide +kernel
theorem dX6_putHit_240 : decode cX6_putHit 240 = .ok (.return_, 1) := by decide +kernel
