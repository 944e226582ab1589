theorem dX6_at_0 : decode cX6_at 0 = .ok (.iload_n 1, 1) := by decide +kernel
theorem dX6_at_1 : decode cX6_at 1 = .ok (.ifCond .lt 11, 3) := by decide +kernel
theorem dX6_at_4 : decode cX6_at 4 = .ok (.iload_n 1, 1) := by decide +kernel
theorem dX6_at_5 : decode cX6_at 5 = .ok (.aload_n 0, 1) := by decide +kernel
theorem dX6_at_6 : decode cX6_at 6 = .ok (.getfield 120, 3) := by decide +kernel
theorem dX6_at_9 : decode cX6_at 9 = .ok (.if_icmp .lt 7, 3) := by decide +kernel
theorem dX6_at_12 : decode cX6_at 12 = .ok (.iconst (-1), 1) := by decide +kernel
theorem dX6_at_13 : decode cX6_at 13 = .ok (.goto 9, 3) := by decide +kernel
theorem dX6_at_16 : decode cX6_at 16 = .ok (.aload_n 0, 1) := by decide +kernel
theorem dX6_at_17 : decode cX6_at 17 = .ok (.getfield 38, 3) := by decide +kernel
theorem dX6_at_20 : decode cX6_at 20 = .ok (.iload_n 1, 1) := by decide +kernel
theorem dX6_at_21 : decode cX6_at 21 = .ok (.caload, 1) := by decide +kernel
theorem dX6_at_22 : decode cX6_at 22 = .ok (.ireturn, 1) := by decide +kernel
theorem dX6_starts_0 : decode cX6_starts 0 = .ok (.aload_n 0, 1) := by decide +kernel
theorem dX6_starts_1 : decode cX6_starts 1 = .ok (.getfield 48, 3) := by decide +kernel
theorem dX6_starts_4 : decode cX6_starts 4 = .ok (.ifCond .le 20, 3) := by decide +kernel
theorem dX6_starts_7 : decode cX6_starts 7 = .ok (.iload_n 1, 1) := by decide +kernel
theorem dX6_starts_8 : decode cX6_starts 8 = .ok (.aload_n 0, 1) := by decide +kernel
theorem dX6_starts_9 : decode cX6_starts 9 = .ok (.getfield 48, 3) := by decide +kernel
theorem dX6_starts_12 : decode cX6_starts 12 = .ok (.iadd, 1) := by decide +kernel
theorem dX6_starts_13 : decode cX6_starts 13 = .ok (.aload_n 0, 1) := by decide +kernel
theorem dX6_starts_14 : decode cX6_starts 14 = .ok (.getfield 45, 3) := by decide +kernel
theorem dX6_starts_17 : decode cX6_starts 17 = .ok (.if_icmp .gt 7, 3) := by decide +kernel
theorem dX6_starts_20 : decode cX6_starts 20 = .ok (.iconst 1, 1) := by decide +kernel
theorem dX6_starts_21 : decode cX6_starts 21 = .ok (.goto 4, 3) := by decide +kernel
theorem dX6_starts_24 : decode cX6_starts 24 = .ok (.iconst 0, 1) := by decide +kernel
theorem dX6_starts_25 : decode cX6_starts 25 = .ok (.istore_n 2, 1) := by decide +kernel
theorem dX6_starts_26 : decode cX6_starts 26 = .ok (.iconst 0, 1) := by decide +kernel
theorem dX6_starts_27 : decode cX6_starts 27 = .ok (.istore_n 3, 1) := by decide +kernel
theorem dX6_starts_28 : decode cX6_starts 28 = .ok (.iload_n 3, 1) := by decide +kernel
theorem dX6_starts_29 : decode cX6_starts 29 = .ok (.aload_n 0, 1) := by decide +kernel
theorem dX6_starts_30 : decode cX6_starts 30 = .ok (.getfield 48, 3) := by decide +kernel
theorem dX6_starts_33 : decode cX6_starts 33 = .ok (.if_icmp .ge 36, 3) := by decide +kernel
theorem dX6_starts_36 : decode cX6_starts 36 = .ok (.iload_n 2, 1) := by decide +kernel
theorem dX6_starts_37 : decode cX6_starts 37 = .ok (.ifCond .eq 32, 3) := by decide +kernel
theorem dX6_starts_40 : decode cX6_starts 40 = .ok (.aload_n 0, 1) := by decide +kernel
theorem dX6_starts_41 : decode cX6_starts 41 = .ok (.getfield 7, 3) := by decide +kernel
theorem dX6_starts_44 : decode cX6_starts 44 = .ok (.iload_n 1, 1) := by decide +kernel
theorem dX6_starts_45 : decode cX6_starts 45 = .ok (.iload_n 3, 1) := by decide +kernel
theorem dX6_starts_46 : decode cX6_starts 46 = .ok (.iadd, 1) := by decide +kernel
theorem dX6_starts_47 : decode cX6_starts 47 = .ok (.iaload, 1) := by decide +kernel
theorem dX6_starts_48 : decode cX6_starts 48 = .ok (.aload_n 0, 1) := by decide +kernel
theorem dX6_starts_49 : decode cX6_starts 49 = .ok (.getfield 13, 3) := by decide +kernel
theorem dX6_starts_52 : decode cX6_starts 52 = .ok (.iload_n 3, 1) := by decide +kernel
theorem dX6_starts_53 : decode cX6_starts 53 = .ok (.iaload, 1) := by decide +kernel
theorem dX6_starts_54 : decode cX6_starts 54 = .ok (.if_icmp .ne 7, 3) := by decide +kernel
theorem dX6_starts_57 : decode cX6_starts 57 = .ok (.iconst 1, 1) := by decide +kernel
theorem dX6_starts_58 : decode cX6_starts 58 = .ok (.goto 4, 3) := by decide +kernel
theorem dX6_starts_61 : decode cX6_starts 61 = .ok (.iconst 0, 1) := by decide +kernel
theorem dX6_starts_62 : decode cX6_starts 62 = .ok (.istore_n 2, 1) := by decide +kernel
theorem dX6_starts_63 : decode cX6_starts 63 = .ok (.iinc 3 1, 3) := by decide +kernel
theorem dX6_starts_66 : decode cX6_starts 66 = .ok (.goto (-38), 3) := by decide +kernel
theorem dX6_starts_69 : decode cX6_starts 69 = .ok (.iload_n 2, 1) := by decide +kernel
theorem dX6_starts_70 : decode cX6_starts 70 = .ok (.ireturn, 1) := by decide +kernel
theorem dX6_first_0 : decode cX6_first 0 = .ok (.iconst (-1), 1) := by decide +kernel
theorem dX6_first_1 : decode cX6_first 1 = .ok (.istore_n 1, 1) := by decide +kernel
theorem dX6_first_2 : decode cX6_first 2 = .ok (.iconst 0, 1) := by decide +kernel
theorem dX6_first_3 : decode cX6_first 3 = .ok (.istore_n 2, 1) := by decide +kernel
theorem dX6_first_4 : decode cX6_first 4 = .ok (.iload_n 2, 1) := by decide +kernel
theorem dX6_first_5 : decode cX6_first 5 = .ok (.aload_n 0, 1) := by decide +kernel
theorem dX6_first_6 : decode cX6_first 6 = .ok (.getfield 45, 3) := by decide +kernel
theorem dX6_first_9 : decode cX6_first 9 = .ok (.if_icmp .ge 38, 3) := by decide +kernel
theorem dX6_first_12 : decode cX6_first 12 = .ok (.aload_n 0, 1) := by decide +kernel
theorem dX6_first_13 : decode cX6_first 13 = .ok (.iload_n 2, 1) := by decide +kernel
theorem dX6_first_14 : decode cX6_first 14 = .ok (.invokevirtual 65, 3) := by decide +kernel
theorem dX6_first_17 : decode cX6_first 17 = .ok (.ifCond .eq 24, 3) := by decide +kernel
theorem dX6_first_20 : decode cX6_first 20 = .ok (.aload_n 0, 1) := by decide +kernel
theorem dX6_first_21 : decode cX6_first 21 = .ok (.iload_n 2, 1) := by decide +kernel
theorem dX6_first_22 : decode cX6_first 22 = .ok (.invokevirtual 59, 3) := by decide +kernel
theorem dX6_first_25 : decode cX6_first 25 = .ok (.istore_n 3, 1) := by decide +kernel
theorem dX6_first_26 : decode cX6_first 26 = .ok (.iload_n 1, 1) := by decide +kernel
theorem dX6_first_27 : decode cX6_first 27 = .ok (.ifCond .lt 8, 3) := by decide +kernel
theorem dX6_first_30 : decode cX6_first 30 = .ok (.iload_n 3, 1) := by decide +kernel
theorem dX6_first_31 : decode cX6_first 31 = .ok (.iload_n 1, 1) := by decide +kernel
theorem dX6_first_32 : decode cX6_first 32 = .ok (.if_icmp .ge 7, 3) := by decide +kernel
theorem dX6_first_35 : decode cX6_first 35 = .ok (.iload_n 3, 1) := by decide +kernel
theorem dX6_first_36 : decode cX6_first 36 = .ok (.goto 4, 3) := by decide +kernel
theorem dX6_first_39 : decode cX6_first 39 = .ok (.iload_n 1, 1) := by decide +kernel
theorem dX6_first_40 : decode cX6_first 40 = .ok (.istore_n 1, 1) := by decide +kernel
theorem dX6_first_41 : decode cX6_first 41 = .ok (.iinc 2 1, 3) := by decide +kernel
theorem dX6_first_44 : decode cX6_first 44 = .ok (.goto (-40), 3) := by decide +kernel
theorem dX6_first_47 : decode cX6_first 47 = .ok (.iload_n 1, 1) := by decide +kernel
theorem dX6_first_48 : decode cX6_first 48 = .ok (.ireturn, 1) := by decide +kernel
theorem dX6_count_0 : decode cX6_count 0 = .ok (.iconst 0, 1) := by decide +kernel
theorem dX6_count_1 : decode cX6_count 1 = .ok (.istore_n 1, 1) := by decide +kernel
theorem dX6_count_2 : decode cX6_count 2 = .ok (.iconst 0, 1) := by decide +kernel
theorem dX6_count_3 : decode cX6_count 3 = .ok (.istore_n 2, 1) := by decide +kernel
theorem dX6_count_4 : decode cX6_count 4 = .ok (.iload_n 2, 1) := by decide +kernel
theorem dX6_count_5 : decode cX6_count 5 = .ok (.aload_n 0, 1) := by decide +kernel
theorem dX6_count_6 : decode cX6_count 6 = .ok (.getfield 45, 3) := by decide +kernel
theorem dX6_count_9 : decode cX6_count 9 = .ok (.if_icmp .ge 25, 3) := by decide +kernel
theorem dX6_count_12 : decode cX6_count 12 = .ok (.aload_n 0, 1) := by decide +kernel
theorem dX6_count_13 : decode cX6_count 13 = .ok (.iload_n 2, 1) := by decide +kernel
theorem dX6_count_14 : decode cX6_count 14 = .ok (.invokevirtual 65, 3) := by decide +kernel
theorem dX6_count_17 : decode cX6_count 17 = .ok (.ifCond .eq 9, 3) := by decide +kernel
theorem dX6_count_20 : decode cX6_count 20 = .ok (.iload_n 1, 1) := by decide +kernel
theorem dX6_count_21 : decode cX6_count 21 = .ok (.iconst 1, 1) := by decide +kernel
theorem dX6_count_22 : decode cX6_count 22 = .ok (.iadd, 1) := by decide +kernel
theorem dX6_count_23 : decode cX6_count 23 = .ok (.goto 4, 3) := by decide +kernel
theorem dX6_count_26 : decode cX6_count 26 = .ok (.iload_n 1, 1) := by decide +kernel
theorem dX6_count_27 : decode cX6_count 27 = .ok (.istore_n 1, 1) := by decide +kernel
theorem dX6_count_28 : decode cX6_count 28 = .ok (.iinc 2 1, 3) := by decide +kernel
theorem dX6_count_31 : decode cX6_count 31 = .ok (.goto (-27), 3) := by decide +kernel
theorem dX6_count_34 : decode cX6_count 34 = .ok (.iload_n 1, 1) := by decide +kernel
theorem dX6_count_35 : decode cX6_count 35 = .ok (.ireturn, 1) := by decide +kernel
theorem dX6_differ_0 : decode cX6_differ 0 = .ok (.iconst 0, 1) := by decide +kernel
theorem dX6_differ_1 : decode cX6_differ 1 = .ok (.istore_n 3, 1) := by decide +kernel
theorem dX6_differ_2 : decode cX6_differ 2 = .ok (.iconst 0, 1) := by decide +kernel
theorem dX6_differ_3 : decode cX6_differ 3 = .ok (.istore 4, 2) := by decide +kernel
theorem dX6_differ_5 : decode cX6_differ 5 = .ok (.iload 4, 2) := by decide +kernel
theorem dX6_differ_7 : decode cX6_differ 7 = .ok (.aload_n 0, 1) := by decide +kernel
theorem dX6_differ_8 : decode cX6_differ 8 = .ok (.getfield 48, 3) := by decide +kernel
theorem dX6_differ_11 : decode cX6_differ 11 = .ok (.if_icmp .ge 36, 3) := by decide +kernel
theorem dX6_differ_14 : decode cX6_differ 14 = .ok (.aload_n 0, 1) := by decide +kernel
theorem dX6_differ_15 : decode cX6_differ 15 = .ok (.getfield 7, 3) := by decide +kernel
theorem dX6_differ_18 : decode cX6_differ 18 = .ok (.iload_n 1, 1) := by decide +kernel
theorem dX6_differ_19 : decode cX6_differ 19 = .ok (.iload 4, 2) := by decide +kernel
theorem dX6_differ_21 : decode cX6_differ 21 = .ok (.iadd, 1) := by decide +kernel
theorem dX6_differ_22 : decode cX6_differ 22 = .ok (.iaload, 1) := by decide +kernel
theorem dX6_differ_23 : decode cX6_differ 23 = .ok (.aload_n 0, 1) := by decide +kernel
theorem dX6_differ_24 : decode cX6_differ 24 = .ok (.iload_n 2, 1) := by decide +kernel
theorem dX6_differ_25 : decode cX6_differ 25 = .ok (.iload 4, 2) := by decide +kernel
theorem dX6_differ_27 : decode cX6_differ 27 = .ok (.invokevirtual 69, 3) := by decide +kernel
theorem dX6_differ_30 : decode cX6_differ 30 = .ok (.if_icmp .ne 7, 3) := by decide +kernel
theorem dX6_differ_33 : decode cX6_differ 33 = .ok (.iload_n 3, 1) := by decide +kernel
theorem dX6_differ_34 : decode cX6_differ 34 = .ok (.goto 6, 3) := by decide +kernel
theorem dX6_differ_37 : decode cX6_differ 37 = .ok (.iload_n 3, 1) := by decide +kernel
theorem dX6_differ_38 : decode cX6_differ 38 = .ok (.iconst 1, 1) := by decide +kernel
theorem dX6_differ_39 : decode cX6_differ 39 = .ok (.iadd, 1) := by decide +kernel
theorem dX6_differ_40 : decode cX6_differ 40 = .ok (.istore_n 3, 1) := by decide +kernel
theorem dX6_differ_41 : decode cX6_differ 41 = .ok (.iinc 4 1, 3) := by decide +kernel
theorem dX6_differ_44 : decode cX6_differ 44 = .ok (.goto (-39), 3) := by decide +kernel
theorem dX6_differ_47 : decode cX6_differ 47 = .ok (.iload_n 3, 1) := by decide +kernel
theorem dX6_differ_48 : decode cX6_differ 48 = .ok (.ireturn, 1) := by decide +kernel
theorem dX6_last_0 : decode cX6_last 0 = .ok (.aload_n 0, 1) := by decide +kernel
theorem dX6_last_1 : decode cX6_last 1 = .ok (.iload_n 1, 1) := by decide +kernel
theorem dX6_last_2 : decode cX6_last 2 = .ok (.invokevirtual 62, 3) := by decide +kernel
theorem dX6_last_5 : decode cX6_last 5 = .ok (.istore_n 2, 1) := by decide +kernel
theorem dX6_last_6 : decode cX6_last 6 = .ok (.iload_n 2, 1) := by decide +kernel
theorem dX6_last_7 : decode cX6_last 7 = .ok (.ifCond .ge 7, 3) := by decide +kernel
theorem dX6_last_10 : decode cX6_last 10 = .ok (.iconst (-1), 1) := by decide +kernel
theorem dX6_last_11 : decode cX6_last 11 = .ok (.goto 19, 3) := by decide +kernel
theorem dX6_last_14 : decode cX6_last 14 = .ok (.iload_n 2, 1) := by decide +kernel
theorem dX6_last_15 : decode cX6_last 15 = .ok (.ifCond .ne 7, 3) := by decide +kernel
theorem dX6_last_18 : decode cX6_last 18 = .ok (.iconst 5, 1) := by decide +kernel
theorem dX6_last_19 : decode cX6_last 19 = .ok (.goto 11, 3) := by decide +kernel
theorem dX6_last_22 : decode cX6_last 22 = .ok (.aload_n 0, 1) := by decide +kernel
theorem dX6_last_23 : decode cX6_last 23 = .ok (.getfield 7, 3) := by decide +kernel
theorem dX6_last_26 : decode cX6_last 26 = .ok (.iload_n 2, 1) := by decide +kernel
theorem dX6_last_27 : decode cX6_last 27 = .ok (.iconst 1, 1) := by decide +kernel
theorem dX6_last_28 : decode cX6_last 28 = .ok (.isub, 1) := by decide +kernel
theorem dX6_last_29 : decode cX6_last 29 = .ok (.iaload, 1) := by decide +kernel
theorem dX6_last_30 : decode cX6_last 30 = .ok (.ireturn, 1) := by decide +kernel
theorem dX6_rank_0 : decode cX6_rank 0 = .ok (.iload_n 1, 1) := by decide +kernel
theorem dX6_rank_1 : decode cX6_rank 1 = .ok (.ifCond .lt 22, 3) := by decide +kernel
theorem dX6_rank_4 : decode cX6_rank 4 = .ok (.iload_n 1, 1) := by decide +kernel
theorem dX6_rank_5 : decode cX6_rank 5 = .ok (.iconst 5, 1) := by decide +kernel
theorem dX6_rank_6 : decode cX6_rank 6 = .ok (.if_icmp .gt 17, 3) := by decide +kernel
theorem dX6_rank_9 : decode cX6_rank 9 = .ok (.iload_n 2, 1) := by decide +kernel
theorem dX6_rank_10 : decode cX6_rank 10 = .ok (.ifCond .lt 13, 3) := by decide +kernel
theorem dX6_rank_13 : decode cX6_rank 13 = .ok (.iload_n 2, 1) := by decide +kernel
theorem dX6_rank_14 : decode cX6_rank 14 = .ok (.aload_n 0, 1) := by decide +kernel
theorem dX6_rank_15 : decode cX6_rank 15 = .ok (.getfield 45, 3) := by decide +kernel
theorem dX6_rank_18 : decode cX6_rank 18 = .ok (.iconst 1, 1) := by decide +kernel
theorem dX6_rank_19 : decode cX6_rank 19 = .ok (.iadd, 1) := by decide +kernel
theorem dX6_rank_20 : decode cX6_rank 20 = .ok (.if_icmp .le 6, 3) := by decide +kernel
theorem dX6_rank_23 : decode cX6_rank 23 = .ok (.bipush (-2), 2) := by decide +kernel
theorem dX6_rank_25 : decode cX6_rank 25 = .ok (.ireturn, 1) := by decide +kernel
theorem dX6_rank_26 : decode cX6_rank 26 = .ok (.iconst 0, 1) := by decide +kernel
theorem dX6_rank_27 : decode cX6_rank 27 = .ok (.istore_n 3, 1) := by decide +kernel
theorem dX6_rank_28 : decode cX6_rank 28 = .ok (.iconst 0, 1) := by decide +kernel
theorem dX6_rank_29 : decode cX6_rank 29 = .ok (.istore 4, 2) := by decide +kernel
theorem dX6_rank_31 : decode cX6_rank 31 = .ok (.iload 4, 2) := by decide +kernel
theorem dX6_rank_33 : decode cX6_rank 33 = .ok (.aload_n 0, 1) := by decide +kernel
theorem dX6_rank_34 : decode cX6_rank 34 = .ok (.getfield 45, 3) := by decide +kernel
theorem dX6_rank_37 : decode cX6_rank 37 = .ok (.if_icmp .gt 53, 3) := by decide +kernel
theorem dX6_rank_40 : decode cX6_rank 40 = .ok (.iload 4, 2) := by decide +kernel
theorem dX6_rank_42 : decode cX6_rank 42 = .ok (.ifCond .ne 7, 3) := by decide +kernel
theorem dX6_rank_45 : decode cX6_rank 45 = .ok (.iconst 5, 1) := by decide +kernel
theorem dX6_rank_46 : decode cX6_rank 46 = .ok (.goto 12, 3) := by decide +kernel
theorem dX6_rank_49 : decode cX6_rank 49 = .ok (.aload_n 0, 1) := by decide +kernel
theorem dX6_rank_50 : decode cX6_rank 50 = .ok (.getfield 7, 3) := by decide +kernel
theorem dX6_rank_53 : decode cX6_rank 53 = .ok (.iload 4, 2) := by decide +kernel
theorem dX6_rank_55 : decode cX6_rank 55 = .ok (.iconst 1, 1) := by decide +kernel
theorem dX6_rank_56 : decode cX6_rank 56 = .ok (.isub, 1) := by decide +kernel
theorem dX6_rank_57 : decode cX6_rank 57 = .ok (.iaload, 1) := by decide +kernel
theorem dX6_rank_58 : decode cX6_rank 58 = .ok (.istore 5, 2) := by decide +kernel
theorem dX6_rank_60 : decode cX6_rank 60 = .ok (.iload 5, 2) := by decide +kernel
theorem dX6_rank_62 : decode cX6_rank 62 = .ok (.iload_n 1, 1) := by decide +kernel
theorem dX6_rank_63 : decode cX6_rank 63 = .ok (.if_icmp .ne 19, 3) := by decide +kernel
theorem dX6_rank_66 : decode cX6_rank 66 = .ok (.aload_n 0, 1) := by decide +kernel
theorem dX6_rank_67 : decode cX6_rank 67 = .ok (.iload 4, 2) := by decide +kernel
theorem dX6_rank_69 : decode cX6_rank 69 = .ok (.invokevirtual 59, 3) := by decide +kernel
theorem dX6_rank_72 : decode cX6_rank 72 = .ok (.iload_n 2, 1) := by decide +kernel
theorem dX6_rank_73 : decode cX6_rank 73 = .ok (.if_icmp .ge 9, 3) := by decide +kernel
theorem dX6_rank_76 : decode cX6_rank 76 = .ok (.iload_n 3, 1) := by decide +kernel
theorem dX6_rank_77 : decode cX6_rank 77 = .ok (.iconst 1, 1) := by decide +kernel
theorem dX6_rank_78 : decode cX6_rank 78 = .ok (.iadd, 1) := by decide +kernel
theorem dX6_rank_79 : decode cX6_rank 79 = .ok (.goto 4, 3) := by decide +kernel
theorem dX6_rank_82 : decode cX6_rank 82 = .ok (.iload_n 3, 1) := by decide +kernel
theorem dX6_rank_83 : decode cX6_rank 83 = .ok (.istore_n 3, 1) := by decide +kernel
theorem dX6_rank_84 : decode cX6_rank 84 = .ok (.iinc 4 1, 3) := by decide +kernel
theorem dX6_rank_87 : decode cX6_rank 87 = .ok (.goto (-56), 3) := by decide +kernel
theorem dX6_rank_90 : decode cX6_rank 90 = .ok (.iload_n 3, 1) := by decide +kernel
theorem dX6_rank_91 : decode cX6_rank 91 = .ok (.ireturn, 1) := by decide +kernel
theorem dX5_base_0 : decode cX5_base 0 = .ok (.iload_n 1, 1) := by decide +kernel
theorem dX5_base_1 : decode cX5_base 1 = .ok (.ifCond .lt 18, 3) := by decide +kernel
theorem dX5_base_4 : decode cX5_base 4 = .ok (.iload_n 1, 1) := by decide +kernel
theorem dX5_base_5 : decode cX5_base 5 = .ok (.iconst 4, 1) := by decide +kernel
theorem dX5_base_6 : decode cX5_base 6 = .ok (.if_icmp .gt 13, 3) := by decide +kernel
theorem dX5_base_9 : decode cX5_base 9 = .ok (.aload_n 0, 1) := by decide +kernel
theorem dX5_base_10 : decode cX5_base 10 = .ok (.getfield 14, 3) := by decide +kernel
theorem dX5_base_13 : decode cX5_base 13 = .ok (.invokevirtual 47, 3) := by decide +kernel
theorem dX5_base_16 : decode cX5_base 16 = .ok (.ifCond .eq 5, 3) := by decide +kernel
theorem dX5_base_19 : decode cX5_base 19 = .ok (.iconst 0, 1) := by decide +kernel
theorem dX5_base_20 : decode cX5_base 20 = .ok (.ireturn, 1) := by decide +kernel
theorem dX5_base_21 : decode cX5_base 21 = .ok (.aload_n 0, 1) := by decide +kernel
theorem dX5_base_22 : decode cX5_base 22 = .ok (.getfield 14, 3) := by decide +kernel
theorem dX5_base_25 : decode cX5_base 25 = .ok (.iload_n 1, 1) := by decide +kernel
theorem dX5_base_26 : decode cX5_base 26 = .ok (.invokevirtual 51, 3) := by decide +kernel
theorem dX5_base_29 : decode cX5_base 29 = .ok (.aload_n 0, 1) := by decide +kernel
theorem dX5_base_30 : decode cX5_base 30 = .ok (.getfield 23, 3) := by decide +kernel
theorem dX5_base_33 : decode cX5_base 33 = .ok (.invokevirtual 54, 3) := by decide +kernel
theorem dX5_base_36 : decode cX5_base 36 = .ok (.iconst 1, 1) := by decide +kernel
theorem dX5_base_37 : decode cX5_base 37 = .ok (.ireturn, 1) := by decide +kernel
theorem dX5_clear_0 : decode cX5_clear 0 = .ok (.aload_n 0, 1) := by decide +kernel
theorem dX5_clear_1 : decode cX5_clear 1 = .ok (.getfield 14, 3) := by decide +kernel
theorem dX5_clear_4 : decode cX5_clear 4 = .ok (.invokevirtual 57, 3) := by decide +kernel
theorem dX5_clear_7 : decode cX5_clear 7 = .ok (.aload_n 0, 1) := by decide +kernel
theorem dX5_clear_8 : decode cX5_clear 8 = .ok (.getfield 23, 3) := by decide +kernel
theorem dX5_clear_11 : decode cX5_clear 11 = .ok (.invokevirtual 54, 3) := by decide +kernel
theorem dX5_clear_14 : decode cX5_clear 14 = .ok (.return_, 1) := by decide +kernel
theorem dX5_read_0 : decode cX5_read 0 = .ok (.iload_n 1, 1) := by decide +kernel
theorem dX5_read_1 : decode cX5_read 1 = .ok (.ifCond .lt 18, 3) := by decide +kernel
theorem dX5_read_4 : decode cX5_read 4 = .ok (.iload_n 1, 1) := by decide +kernel
theorem dX5_read_5 : decode cX5_read 5 = .ok (.iconst 3, 1) := by decide +kernel
theorem dX5_read_6 : decode cX5_read 6 = .ok (.if_icmp .gt 13, 3) := by decide +kernel
theorem dX5_read_9 : decode cX5_read 9 = .ok (.aload_n 0, 1) := by decide +kernel
theorem dX5_read_10 : decode cX5_read 10 = .ok (.getfield 27, 3) := by decide +kernel
theorem dX5_read_13 : decode cX5_read 13 = .ok (.invokevirtual 47, 3) := by decide +kernel
theorem dX5_read_16 : decode cX5_read 16 = .ok (.ifCond .eq 5, 3) := by decide +kernel
theorem dX5_read_19 : decode cX5_read 19 = .ok (.iconst 0, 1) := by decide +kernel
theorem dX5_read_20 : decode cX5_read 20 = .ok (.ireturn, 1) := by decide +kernel
theorem dX5_read_21 : decode cX5_read 21 = .ok (.aload_n 0, 1) := by decide +kernel
theorem dX5_read_22 : decode cX5_read 22 = .ok (.getfield 27, 3) := by decide +kernel
theorem dX5_read_25 : decode cX5_read 25 = .ok (.iload_n 1, 1) := by decide +kernel
theorem dX5_read_26 : decode cX5_read 26 = .ok (.invokevirtual 51, 3) := by decide +kernel
theorem dX5_read_29 : decode cX5_read 29 = .ok (.iconst 1, 1) := by decide +kernel
theorem dX5_read_30 : decode cX5_read 30 = .ok (.ireturn, 1) := by decide +kernel
theorem dX5_wipe_0 : decode cX5_wipe 0 = .ok (.aload_n 0, 1) := by decide +kernel
theorem dX5_wipe_1 : decode cX5_wipe 1 = .ok (.getfield 27, 3) := by decide +kernel
theorem dX5_wipe_4 : decode cX5_wipe 4 = .ok (.invokevirtual 57, 3) := by decide +kernel
theorem dX5_wipe_7 : decode cX5_wipe 7 = .ok (.return_, 1) := by decide +kernel
