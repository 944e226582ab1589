theorem dX5_turn_0 : decode cX5_turn 0 = .ok (.aload_n 0, 1) := by decide +kernel
theorem dX5_turn_1 : decode cX5_turn 1 = .ok (.getfield 30, 3) := by decide +kernel
theorem dX5_turn_4 : decode cX5_turn 4 = .ok (.aload_n 0, 1) := by decide +kernel
theorem dX5_turn_5 : decode cX5_turn 5 = .ok (.getfield 27, 3) := by decide +kernel
theorem dX5_turn_8 : decode cX5_turn 8 = .ok (.invokevirtual 60, 3) := by decide +kernel
theorem dX5_turn_11 : decode cX5_turn 11 = .ok (.aload_n 0, 1) := by decide +kernel
theorem dX5_turn_12 : decode cX5_turn 12 = .ok (.getfield 27, 3) := by decide +kernel
theorem dX5_turn_15 : decode cX5_turn 15 = .ok (.astore_n 1, 1) := by decide +kernel
theorem dX5_turn_16 : decode cX5_turn 16 = .ok (.aload_n 0, 1) := by decide +kernel
theorem dX5_turn_17 : decode cX5_turn 17 = .ok (.aload_n 0, 1) := by decide +kernel
theorem dX5_turn_18 : decode cX5_turn 18 = .ok (.getfield 30, 3) := by decide +kernel
theorem dX5_turn_21 : decode cX5_turn 21 = .ok (.putfield 27, 3) := by decide +kernel
theorem dX5_turn_24 : decode cX5_turn 24 = .ok (.aload_n 0, 1) := by decide +kernel
theorem dX5_turn_25 : decode cX5_turn 25 = .ok (.aload_n 1, 1) := by decide +kernel
theorem dX5_turn_26 : decode cX5_turn 26 = .ok (.putfield 30, 3) := by decide +kernel
theorem dX5_turn_29 : decode cX5_turn 29 = .ok (.return_, 1) := by decide +kernel
theorem dX5_length_0 : decode cX5_length 0 = .ok (.iload_n 1, 1) := by decide +kernel
theorem dX5_length_1 : decode cX5_length 1 = .ok (.ifCond .eq 13, 3) := by decide +kernel
theorem dX5_length_4 : decode cX5_length 4 = .ok (.aload_n 0, 1) := by decide +kernel
theorem dX5_length_5 : decode cX5_length 5 = .ok (.getfield 27, 3) := by decide +kernel
theorem dX5_length_8 : decode cX5_length 8 = .ok (.getfield 63, 3) := by decide +kernel
theorem dX5_length_11 : decode cX5_length 11 = .ok (.goto 10, 3) := by decide +kernel
theorem dX5_length_14 : decode cX5_length 14 = .ok (.aload_n 0, 1) := by decide +kernel
theorem dX5_length_15 : decode cX5_length 15 = .ok (.getfield 14, 3) := by decide +kernel
theorem dX5_length_18 : decode cX5_length 18 = .ok (.getfield 63, 3) := by decide +kernel
theorem dX5_length_21 : decode cX5_length 21 = .ok (.ireturn, 1) := by decide +kernel
theorem dX5_row_0 : decode cX5_row 0 = .ok (.aload_n 0, 1) := by decide +kernel
theorem dX5_row_1 : decode cX5_row 1 = .ok (.getfield 23, 3) := by decide +kernel
theorem dX5_row_4 : decode cX5_row 4 = .ok (.iload_n 1, 1) := by decide +kernel
theorem dX5_row_5 : decode cX5_row 5 = .ok (.invokevirtual 66, 3) := by decide +kernel
theorem dX5_row_8 : decode cX5_row 8 = .ok (.ifCond .eq 14, 3) := by decide +kernel
theorem dX5_row_11 : decode cX5_row 11 = .ok (.aload_n 0, 1) := by decide +kernel
theorem dX5_row_12 : decode cX5_row 12 = .ok (.getfield 23, 3) := by decide +kernel
theorem dX5_row_15 : decode cX5_row 15 = .ok (.iload_n 1, 1) := by decide +kernel
theorem dX5_row_16 : decode cX5_row 16 = .ok (.invokevirtual 70, 3) := by decide +kernel
theorem dX5_row_19 : decode cX5_row 19 = .ok (.goto 4, 3) := by decide +kernel
theorem dX5_row_22 : decode cX5_row 22 = .ok (.iconst (-1), 1) := by decide +kernel
theorem dX5_row_23 : decode cX5_row 23 = .ok (.ireturn, 1) := by decide +kernel
theorem dX5_last_0 : decode cX5_last 0 = .ok (.aload_n 0, 1) := by decide +kernel
theorem dX5_last_1 : decode cX5_last 1 = .ok (.getfield 23, 3) := by decide +kernel
theorem dX5_last_4 : decode cX5_last 4 = .ok (.iload_n 1, 1) := by decide +kernel
theorem dX5_last_5 : decode cX5_last 5 = .ok (.invokevirtual 66, 3) := by decide +kernel
theorem dX5_last_8 : decode cX5_last 8 = .ok (.ifCond .eq 14, 3) := by decide +kernel
theorem dX5_last_11 : decode cX5_last 11 = .ok (.aload_n 0, 1) := by decide +kernel
theorem dX5_last_12 : decode cX5_last 12 = .ok (.getfield 23, 3) := by decide +kernel
theorem dX5_last_15 : decode cX5_last 15 = .ok (.iload_n 1, 1) := by decide +kernel
theorem dX5_last_16 : decode cX5_last 16 = .ok (.invokevirtual 74, 3) := by decide +kernel
theorem dX5_last_19 : decode cX5_last 19 = .ok (.goto 4, 3) := by decide +kernel
theorem dX5_last_22 : decode cX5_last 22 = .ok (.iconst (-1), 1) := by decide +kernel
theorem dX5_last_23 : decode cX5_last 23 = .ok (.ireturn, 1) := by decide +kernel
theorem dX5_rank_0 : decode cX5_rank 0 = .ok (.iload_n 1, 1) := by decide +kernel
theorem dX5_rank_1 : decode cX5_rank 1 = .ok (.ifCond .lt 23, 3) := by decide +kernel
theorem dX5_rank_4 : decode cX5_rank 4 = .ok (.iload_n 1, 1) := by decide +kernel
theorem dX5_rank_5 : decode cX5_rank 5 = .ok (.iconst 5, 1) := by decide +kernel
theorem dX5_rank_6 : decode cX5_rank 6 = .ok (.if_icmp .gt 18, 3) := by decide +kernel
theorem dX5_rank_9 : decode cX5_rank 9 = .ok (.iload_n 2, 1) := by decide +kernel
theorem dX5_rank_10 : decode cX5_rank 10 = .ok (.ifCond .lt 14, 3) := by decide +kernel
theorem dX5_rank_13 : decode cX5_rank 13 = .ok (.iload_n 2, 1) := by decide +kernel
theorem dX5_rank_14 : decode cX5_rank 14 = .ok (.aload_n 0, 1) := by decide +kernel
theorem dX5_rank_15 : decode cX5_rank 15 = .ok (.getfield 23, 3) := by decide +kernel
theorem dX5_rank_18 : decode cX5_rank 18 = .ok (.invokevirtual 77, 3) := by decide +kernel
theorem dX5_rank_21 : decode cX5_rank 21 = .ok (.if_icmp .le 6, 3) := by decide +kernel
theorem dX5_rank_24 : decode cX5_rank 24 = .ok (.bipush (-2), 2) := by decide +kernel
theorem dX5_rank_26 : decode cX5_rank 26 = .ok (.ireturn, 1) := by decide +kernel
theorem dX5_rank_27 : decode cX5_rank 27 = .ok (.iconst 0, 1) := by decide +kernel
theorem dX5_rank_28 : decode cX5_rank 28 = .ok (.istore_n 3, 1) := by decide +kernel
theorem dX5_rank_29 : decode cX5_rank 29 = .ok (.iconst 0, 1) := by decide +kernel
theorem dX5_rank_30 : decode cX5_rank 30 = .ok (.istore 4, 2) := by decide +kernel
theorem dX5_rank_32 : decode cX5_rank 32 = .ok (.iload 4, 2) := by decide +kernel
theorem dX5_rank_34 : decode cX5_rank 34 = .ok (.iload_n 2, 1) := by decide +kernel
theorem dX5_rank_35 : decode cX5_rank 35 = .ok (.if_icmp .ge 25, 3) := by decide +kernel
theorem dX5_rank_38 : decode cX5_rank 38 = .ok (.aload_n 0, 1) := by decide +kernel
theorem dX5_rank_39 : decode cX5_rank 39 = .ok (.getfield 23, 3) := by decide +kernel
theorem dX5_rank_42 : decode cX5_rank 42 = .ok (.iload 4, 2) := by decide +kernel
theorem dX5_rank_44 : decode cX5_rank 44 = .ok (.invokevirtual 74, 3) := by decide +kernel
theorem dX5_rank_47 : decode cX5_rank 47 = .ok (.iload_n 1, 1) := by decide +kernel
theorem dX5_rank_48 : decode cX5_rank 48 = .ok (.if_icmp .ne 6, 3) := by decide +kernel
theorem dX5_rank_51 : decode cX5_rank 51 = .ok (.iinc 3 1, 3) := by decide +kernel
theorem dX5_rank_54 : decode cX5_rank 54 = .ok (.iinc 4 1, 3) := by decide +kernel
theorem dX5_rank_57 : decode cX5_rank 57 = .ok (.goto (-25), 3) := by decide +kernel
theorem dX5_rank_60 : decode cX5_rank 60 = .ok (.iload_n 3, 1) := by decide +kernel
theorem dX5_rank_61 : decode cX5_rank 61 = .ok (.ireturn, 1) := by decide +kernel
theorem dX5_first_0 : decode cX5_first 0 = .ok (.aload_n 0, 1) := by decide +kernel
theorem dX5_first_1 : decode cX5_first 1 = .ok (.getfield 27, 3) := by decide +kernel
theorem dX5_first_4 : decode cX5_first 4 = .ok (.getfield 63, 3) := by decide +kernel
theorem dX5_first_7 : decode cX5_first 7 = .ok (.ifCond .ne 5, 3) := by decide +kernel
theorem dX5_first_10 : decode cX5_first 10 = .ok (.iconst (-1), 1) := by decide +kernel
theorem dX5_first_11 : decode cX5_first 11 = .ok (.ireturn, 1) := by decide +kernel
theorem dX5_first_12 : decode cX5_first 12 = .ok (.iconst 0, 1) := by decide +kernel
theorem dX5_first_13 : decode cX5_first 13 = .ok (.istore_n 1, 1) := by decide +kernel
theorem dX5_first_14 : decode cX5_first 14 = .ok (.iload_n 1, 1) := by decide +kernel
theorem dX5_first_15 : decode cX5_first 15 = .ok (.aload_n 0, 1) := by decide +kernel
theorem dX5_first_16 : decode cX5_first 16 = .ok (.getfield 23, 3) := by decide +kernel
theorem dX5_first_19 : decode cX5_first 19 = .ok (.invokevirtual 77, 3) := by decide +kernel
theorem dX5_first_22 : decode cX5_first 22 = .ok (.if_icmp .ge 33, 3) := by decide +kernel
theorem dX5_first_25 : decode cX5_first 25 = .ok (.aload_n 0, 1) := by decide +kernel
theorem dX5_first_26 : decode cX5_first 26 = .ok (.getfield 14, 3) := by decide +kernel
theorem dX5_first_29 : decode cX5_first 29 = .ok (.aload_n 0, 1) := by decide +kernel
theorem dX5_first_30 : decode cX5_first 30 = .ok (.getfield 23, 3) := by decide +kernel
theorem dX5_first_33 : decode cX5_first 33 = .ok (.iload_n 1, 1) := by decide +kernel
theorem dX5_first_34 : decode cX5_first 34 = .ok (.invokevirtual 70, 3) := by decide +kernel
theorem dX5_first_37 : decode cX5_first 37 = .ok (.aload_n 0, 1) := by decide +kernel
theorem dX5_first_38 : decode cX5_first 38 = .ok (.getfield 27, 3) := by decide +kernel
theorem dX5_first_41 : decode cX5_first 41 = .ok (.invokevirtual 81, 3) := by decide +kernel
theorem dX5_first_44 : decode cX5_first 44 = .ok (.ifCond .eq 5, 3) := by decide +kernel
theorem dX5_first_47 : decode cX5_first 47 = .ok (.iload_n 1, 1) := by decide +kernel
theorem dX5_first_48 : decode cX5_first 48 = .ok (.ireturn, 1) := by decide +kernel
theorem dX5_first_49 : decode cX5_first 49 = .ok (.iinc 1 1, 3) := by decide +kernel
theorem dX5_first_52 : decode cX5_first 52 = .ok (.goto (-38), 3) := by decide +kernel
theorem dX5_first_55 : decode cX5_first 55 = .ok (.iconst (-1), 1) := by decide +kernel
theorem dX5_first_56 : decode cX5_first 56 = .ok (.ireturn, 1) := by decide +kernel
theorem dX5_count_0 : decode cX5_count 0 = .ok (.aload_n 0, 1) := by decide +kernel
theorem dX5_count_1 : decode cX5_count 1 = .ok (.getfield 27, 3) := by decide +kernel
theorem dX5_count_4 : decode cX5_count 4 = .ok (.getfield 63, 3) := by decide +kernel
theorem dX5_count_7 : decode cX5_count 7 = .ok (.ifCond .ne 5, 3) := by decide +kernel
theorem dX5_count_10 : decode cX5_count 10 = .ok (.iconst 0, 1) := by decide +kernel
theorem dX5_count_11 : decode cX5_count 11 = .ok (.ireturn, 1) := by decide +kernel
theorem dX5_count_12 : decode cX5_count 12 = .ok (.iconst 0, 1) := by decide +kernel
theorem dX5_count_13 : decode cX5_count 13 = .ok (.istore_n 1, 1) := by decide +kernel
theorem dX5_count_14 : decode cX5_count 14 = .ok (.iconst 0, 1) := by decide +kernel
theorem dX5_count_15 : decode cX5_count 15 = .ok (.istore_n 2, 1) := by decide +kernel
theorem dX5_count_16 : decode cX5_count 16 = .ok (.iload_n 2, 1) := by decide +kernel
theorem dX5_count_17 : decode cX5_count 17 = .ok (.aload_n 0, 1) := by decide +kernel
theorem dX5_count_18 : decode cX5_count 18 = .ok (.getfield 14, 3) := by decide +kernel
theorem dX5_count_21 : decode cX5_count 21 = .ok (.getfield 63, 3) := by decide +kernel
theorem dX5_count_24 : decode cX5_count 24 = .ok (.if_icmp .ge 27, 3) := by decide +kernel
theorem dX5_count_27 : decode cX5_count 27 = .ok (.aload_n 0, 1) := by decide +kernel
theorem dX5_count_28 : decode cX5_count 28 = .ok (.getfield 14, 3) := by decide +kernel
theorem dX5_count_31 : decode cX5_count 31 = .ok (.iload_n 2, 1) := by decide +kernel
theorem dX5_count_32 : decode cX5_count 32 = .ok (.aload_n 0, 1) := by decide +kernel
theorem dX5_count_33 : decode cX5_count 33 = .ok (.getfield 27, 3) := by decide +kernel
theorem dX5_count_36 : decode cX5_count 36 = .ok (.invokevirtual 81, 3) := by decide +kernel
theorem dX5_count_39 : decode cX5_count 39 = .ok (.ifCond .eq 6, 3) := by decide +kernel
theorem dX5_count_42 : decode cX5_count 42 = .ok (.iinc 1 1, 3) := by decide +kernel
theorem dX5_count_45 : decode cX5_count 45 = .ok (.iinc 2 1, 3) := by decide +kernel
theorem dX5_count_48 : decode cX5_count 48 = .ok (.goto (-32), 3) := by decide +kernel
theorem dX5_count_51 : decode cX5_count 51 = .ok (.iload_n 1, 1) := by decide +kernel
theorem dX5_count_52 : decode cX5_count 52 = .ok (.ireturn, 1) := by decide +kernel
theorem dX5_hits_0 : decode cX5_hits 0 = .ok (.aload_n 0, 1) := by decide +kernel
theorem dX5_hits_1 : decode cX5_hits 1 = .ok (.getfield 36, 3) := by decide +kernel
theorem dX5_hits_4 : decode cX5_hits 4 = .ok (.getfield 101, 3) := by decide +kernel
theorem dX5_hits_7 : decode cX5_hits 7 = .ok (.getfield 105, 3) := by decide +kernel
theorem dX5_hits_10 : decode cX5_hits 10 = .ok (.ireturn, 1) := by decide +kernel
theorem dX5_size_0 : decode cX5_size 0 = .ok (.aload_n 0, 1) := by decide +kernel
theorem dX5_size_1 : decode cX5_size 1 = .ok (.getfield 36, 3) := by decide +kernel
theorem dX5_size_4 : decode cX5_size 4 = .ok (.getfield 92, 3) := by decide +kernel
theorem dX5_size_7 : decode cX5_size 7 = .ok (.getfield 123, 3) := by decide +kernel
theorem dX5_size_10 : decode cX5_size 10 = .ok (.ireturn, 1) := by decide +kernel
theorem dX5_mappings_0 : decode cX5_mappings 0 = .ok (.aload_n 0, 1) := by decide +kernel
theorem dX5_mappings_1 : decode cX5_mappings 1 = .ok (.getfield 43, 3) := by decide +kernel
theorem dX5_mappings_4 : decode cX5_mappings 4 = .ok (.ireturn, 1) := by decide +kernel
theorem dX5_at_0 : decode cX5_at 0 = .ok (.aload_n 0, 1) := by decide +kernel
theorem dX5_at_1 : decode cX5_at 1 = .ok (.getfield 36, 3) := by decide +kernel
theorem dX5_at_4 : decode cX5_at 4 = .ok (.getfield 92, 3) := by decide +kernel
theorem dX5_at_7 : decode cX5_at 7 = .ok (.astore_n 2, 1) := by decide +kernel
theorem dX5_at_8 : decode cX5_at 8 = .ok (.iload_n 1, 1) := by decide +kernel
theorem dX5_at_9 : decode cX5_at 9 = .ok (.ifCond .lt 11, 3) := by decide +kernel
theorem dX5_at_12 : decode cX5_at 12 = .ok (.iload_n 1, 1) := by decide +kernel
theorem dX5_at_13 : decode cX5_at 13 = .ok (.aload_n 2, 1) := by decide +kernel
theorem dX5_at_14 : decode cX5_at 14 = .ok (.getfield 123, 3) := by decide +kernel
theorem dX5_at_17 : decode cX5_at 17 = .ok (.if_icmp .lt 7, 3) := by decide +kernel
theorem dX5_at_20 : decode cX5_at 20 = .ok (.iconst (-1), 1) := by decide +kernel
theorem dX5_at_21 : decode cX5_at 21 = .ok (.goto 9, 3) := by decide +kernel
theorem dX5_at_24 : decode cX5_at 24 = .ok (.aload_n 2, 1) := by decide +kernel
theorem dX5_at_25 : decode cX5_at 25 = .ok (.getfield 126, 3) := by decide +kernel
theorem dX5_at_28 : decode cX5_at 28 = .ok (.iload_n 1, 1) := by decide +kernel
theorem dX5_at_29 : decode cX5_at 29 = .ok (.caload, 1) := by decide +kernel
theorem dX5_at_30 : decode cX5_at 30 = .ok (.ireturn, 1) := by decide +kernel
theorem dX6_put_0 : decode cX6_put 0 = .ok (.aload_n 0, 1) := by decide +kernel
theorem dX6_put_1 : decode cX6_put 1 = .ok (.getfield 82, 3) := by decide +kernel
theorem dX6_put_4 : decode cX6_put 4 = .ok (.sipush 1500, 3) := by decide +kernel
theorem dX6_put_7 : decode cX6_put 7 = .ok (.if_icmp .ge 14, 3) := by decide +kernel
theorem dX6_put_10 : decode cX6_put 10 = .ok (.aload_n 0, 1) := by decide +kernel
theorem dX6_put_11 : decode cX6_put 11 = .ok (.getfield 42, 3) := by decide +kernel
theorem dX6_put_14 : decode cX6_put 14 = .ok (.aload_n 0, 1) := by decide +kernel
theorem dX6_put_15 : decode cX6_put 15 = .ok (.getfield 82, 3) := by decide +kernel
theorem dX6_put_18 : decode cX6_put 18 = .ok (.iload_n 1, 1) := by decide +kernel
theorem dX6_put_19 : decode cX6_put 19 = .ok (.i2c, 1) := by decide +kernel
theorem dX6_put_20 : decode cX6_put 20 = .ok (.castore, 1) := by decide +kernel
theorem dX6_put_21 : decode cX6_put 21 = .ok (.aload_n 0, 1) := by decide +kernel
theorem dX6_put_22 : decode cX6_put 22 = .ok (.dup, 1) := by decide +kernel
theorem dX6_put_23 : decode cX6_put 23 = .ok (.getfield 82, 3) := by decide +kernel
theorem dX6_put_26 : decode cX6_put 26 = .ok (.iconst 1, 1) := by decide +kernel
theorem dX6_put_27 : decode cX6_put 27 = .ok (.iadd, 1) := by decide +kernel
theorem dX6_put_28 : decode cX6_put 28 = .ok (.putfield 82, 3) := by decide +kernel
theorem dX6_put_31 : decode cX6_put 31 = .ok (.return_, 1) := by decide +kernel
theorem dX6_putNumber_0 : decode cX6_putNumber 0 = .ok (.iconst 1, 1) := by decide +kernel
theorem dX6_putNumber_1 : decode cX6_putNumber 1 = .ok (.istore_n 2, 1) := by decide +kernel
theorem dX6_putNumber_2 : decode cX6_putNumber 2 = .ok (.iload_n 1, 1) := by decide +kernel
theorem dX6_putNumber_3 : decode cX6_putNumber 3 = .ok (.iload_n 2, 1) := by decide +kernel
theorem dX6_putNumber_4 : decode cX6_putNumber 4 = .ok (.idiv, 1) := by decide +kernel
theorem dX6_putNumber_5 : decode cX6_putNumber 5 = .ok (.bipush 10, 2) := by decide +kernel
theorem dX6_putNumber_7 : decode cX6_putNumber 7 = .ok (.if_icmp .lt 11, 3) := by decide +kernel
theorem dX6_putNumber_10 : decode cX6_putNumber 10 = .ok (.iload_n 2, 1) := by decide +kernel
theorem dX6_putNumber_11 : decode cX6_putNumber 11 = .ok (.bipush 10, 2) := by decide +kernel
theorem dX6_putNumber_13 : decode cX6_putNumber 13 = .ok (.imul, 1) := by decide +kernel
theorem dX6_putNumber_14 : decode cX6_putNumber 14 = .ok (.istore_n 2, 1) := by decide +kernel
theorem dX6_putNumber_15 : decode cX6_putNumber 15 = .ok (.goto (-13), 3) := by decide +kernel
theorem dX6_putNumber_18 : decode cX6_putNumber 18 = .ok (.iload_n 2, 1) := by decide +kernel
theorem dX6_putNumber_19 : decode cX6_putNumber 19 = .ok (.ifCond .le 24, 3) := by decide +kernel
theorem dX6_putNumber_22 : decode cX6_putNumber 22 = .ok (.aload_n 0, 1) := by decide +kernel
theorem dX6_putNumber_23 : decode cX6_putNumber 23 = .ok (.bipush 48, 2) := by decide +kernel
theorem dX6_putNumber_25 : decode cX6_putNumber 25 = .ok (.iload_n 1, 1) := by decide +kernel
theorem dX6_putNumber_26 : decode cX6_putNumber 26 = .ok (.iload_n 2, 1) := by decide +kernel
theorem dX6_putNumber_27 : decode cX6_putNumber 27 = .ok (.idiv, 1) := by decide +kernel
theorem dX6_putNumber_28 : decode cX6_putNumber 28 = .ok (.bipush 10, 2) := by decide +kernel
theorem dX6_putNumber_30 : decode cX6_putNumber 30 = .ok (.irem, 1) := by decide +kernel
theorem dX6_putNumber_31 : decode cX6_putNumber 31 = .ok (.iadd, 1) := by decide +kernel
theorem dX6_putNumber_32 : decode cX6_putNumber 32 = .ok (.invokevirtual 85, 3) := by decide +kernel
theorem dX6_putNumber_35 : decode cX6_putNumber 35 = .ok (.iload_n 2, 1) := by decide +kernel
theorem dX6_putNumber_36 : decode cX6_putNumber 36 = .ok (.bipush 10, 2) := by decide +kernel
theorem dX6_putNumber_38 : decode cX6_putNumber 38 = .ok (.idiv, 1) := by decide +kernel
theorem dX6_putNumber_39 : decode cX6_putNumber 39 = .ok (.istore_n 2, 1) := by decide +kernel
theorem dX6_putNumber_40 : decode cX6_putNumber 40 = .ok (.goto (-22), 3) := by decide +kernel
theorem dX6_putNumber_43 : decode cX6_putNumber 43 = .ok (.return_, 1) := by decide +kernel
theorem dX6_putBase_0 : decode cX6_putBase 0 = .ok (.aload_n 0, 1) := by decide +kernel
theorem dX6_putBase_1 : decode cX6_putBase 1 = .ok (.iload_n 1, 1) := by decide +kernel
theorem dX6_putBase_2 : decode cX6_putBase 2 = .ok (.ifCond .ne 8, 3) := by decide +kernel
theorem dX6_putBase_5 : decode cX6_putBase 5 = .ok (.bipush 65, 2) := by decide +kernel
theorem dX6_putBase_7 : decode cX6_putBase 7 = .ok (.goto 35, 3) := by decide +kernel
theorem dX6_putBase_10 : decode cX6_putBase 10 = .ok (.iload_n 1, 1) := by decide +kernel
theorem dX6_putBase_11 : decode cX6_putBase 11 = .ok (.iconst 1, 1) := by decide +kernel
theorem dX6_putBase_12 : decode cX6_putBase 12 = .ok (.if_icmp .ne 8, 3) := by decide +kernel
theorem dX6_putBase_15 : decode cX6_putBase 15 = .ok (.bipush 67, 2) := by decide +kernel
theorem dX6_putBase_17 : decode cX6_putBase 17 = .ok (.goto 25, 3) := by decide +kernel
theorem dX6_putBase_20 : decode cX6_putBase 20 = .ok (.iload_n 1, 1) := by decide +kernel
theorem dX6_putBase_21 : decode cX6_putBase 21 = .ok (.iconst 2, 1) := by decide +kernel
theorem dX6_putBase_22 : decode cX6_putBase 22 = .ok (.if_icmp .ne 8, 3) := by decide +kernel
theorem dX6_putBase_25 : decode cX6_putBase 25 = .ok (.bipush 71, 2) := by decide +kernel
theorem dX6_putBase_27 : decode cX6_putBase 27 = .ok (.goto 15, 3) := by decide +kernel
theorem dX6_putBase_30 : decode cX6_putBase 30 = .ok (.iload_n 1, 1) := by decide +kernel
theorem dX6_putBase_31 : decode cX6_putBase 31 = .ok (.iconst 3, 1) := by decide +kernel
theorem dX6_putBase_32 : decode cX6_putBase 32 = .ok (.if_icmp .ne 8, 3) := by decide +kernel
theorem dX6_putBase_35 : decode cX6_putBase 35 = .ok (.bipush 84, 2) := by decide +kernel
theorem dX6_putBase_37 : decode cX6_putBase 37 = .ok (.goto 5, 3) := by decide +kernel
theorem dX6_putBase_40 : decode cX6_putBase 40 = .ok (.bipush 78, 2) := by decide +kernel
theorem dX6_putBase_42 : decode cX6_putBase 42 = .ok (.invokevirtual 85, 3) := by decide +kernel
theorem dX6_putBase_45 : decode cX6_putBase 45 = .ok (.return_, 1) := by decide +kernel
theorem dX6_tab_0 : decode cX6_tab 0 = .ok (.aload_n 0, 1) := by decide +kernel
theorem dX6_tab_1 : decode cX6_tab 1 = .ok (.bipush 9, 2) := by decide +kernel
theorem dX6_tab_3 : decode cX6_tab 3 = .ok (.invokevirtual 85, 3) := by decide +kernel
theorem dX6_tab_6 : decode cX6_tab 6 = .ok (.return_, 1) := by decide +kernel
theorem dX6_pair_0 : decode cX6_pair 0 = .ok (.aload_n 0, 1) := by decide +kernel
theorem dX6_pair_1 : decode cX6_pair 1 = .ok (.iload_n 1, 1) := by decide +kernel
theorem dX6_pair_2 : decode cX6_pair 2 = .ok (.invokevirtual 85, 3) := by decide +kernel
theorem dX6_pair_5 : decode cX6_pair 5 = .ok (.aload_n 0, 1) := by decide +kernel
theorem dX6_pair_6 : decode cX6_pair 6 = .ok (.iload_n 2, 1) := by decide +kernel
theorem dX6_pair_7 : decode cX6_pair 7 = .ok (.invokevirtual 85, 3) := by decide +kernel
theorem dX6_pair_10 : decode cX6_pair 10 = .ok (.aload_n 0, 1) := by decide +kernel
theorem dX6_pair_11 : decode cX6_pair 11 = .ok (.bipush 58, 2) := by decide +kernel
theorem dX6_pair_13 : decode cX6_pair 13 = .ok (.invokevirtual 85, 3) := by decide +kernel
theorem dX6_pair_16 : decode cX6_pair 16 = .ok (.return_, 1) := by decide +kernel
