theorem dX6_weight_0 : decode cX6_weight 0 = .ok (.iload_n 1, 1) := by decide +kernel
theorem dX6_weight_1 : decode cX6_weight 1 = .ok (.aload_n 0, 1) := by decide +kernel
theorem dX6_weight_2 : decode cX6_weight 2 = .ok (.getfield 45, 3) := by decide +kernel
theorem dX6_weight_5 : decode cX6_weight 5 = .ok (.if_icmp .lt 7, 3) := by decide +kernel
theorem dX6_weight_8 : decode cX6_weight 8 = .ok (.iconst 0, 1) := by decide +kernel
theorem dX6_weight_9 : decode cX6_weight 9 = .ok (.goto 11, 3) := by decide +kernel
theorem dX6_weight_12 : decode cX6_weight 12 = .ok (.aload_n 0, 1) := by decide +kernel
theorem dX6_weight_13 : decode cX6_weight 13 = .ok (.getfield 7, 3) := by decide +kernel
theorem dX6_weight_16 : decode cX6_weight 16 = .ok (.iload_n 1, 1) := by decide +kernel
theorem dX6_weight_17 : decode cX6_weight 17 = .ok (.iaload, 1) := by decide +kernel
theorem dX6_weight_18 : decode cX6_weight 18 = .ok (.iconst 1, 1) := by decide +kernel
theorem dX6_weight_19 : decode cX6_weight 19 = .ok (.iadd, 1) := by decide +kernel
theorem dX6_weight_20 : decode cX6_weight 20 = .ok (.ireturn, 1) := by decide +kernel
theorem dX6_less_0 : decode cX6_less 0 = .ok (.iconst 0, 1) := by decide +kernel
theorem dX6_less_1 : decode cX6_less 1 = .ok (.istore_n 3, 1) := by decide +kernel
theorem dX6_less_2 : decode cX6_less 2 = .ok (.iload_n 3, 1) := by decide +kernel
theorem dX6_less_3 : decode cX6_less 3 = .ok (.bipush 97, 2) := by decide +kernel
theorem dX6_less_5 : decode cX6_less 5 = .ok (.if_icmp .ge 54, 3) := by decide +kernel
theorem dX6_less_8 : decode cX6_less 8 = .ok (.aload_n 0, 1) := by decide +kernel
theorem dX6_less_9 : decode cX6_less 9 = .ok (.iload_n 1, 1) := by decide +kernel
theorem dX6_less_10 : decode cX6_less 10 = .ok (.iload_n 3, 1) := by decide +kernel
theorem dX6_less_11 : decode cX6_less 11 = .ok (.iadd, 1) := by decide +kernel
theorem dX6_less_12 : decode cX6_less 12 = .ok (.invokevirtual 51, 3) := by decide +kernel
theorem dX6_less_15 : decode cX6_less 15 = .ok (.istore 4, 2) := by decide +kernel
theorem dX6_less_17 : decode cX6_less 17 = .ok (.aload_n 0, 1) := by decide +kernel
theorem dX6_less_18 : decode cX6_less 18 = .ok (.iload_n 2, 1) := by decide +kernel
theorem dX6_less_19 : decode cX6_less 19 = .ok (.iload_n 3, 1) := by decide +kernel
theorem dX6_less_20 : decode cX6_less 20 = .ok (.iadd, 1) := by decide +kernel
theorem dX6_less_21 : decode cX6_less 21 = .ok (.invokevirtual 51, 3) := by decide +kernel
theorem dX6_less_24 : decode cX6_less 24 = .ok (.istore 5, 2) := by decide +kernel
theorem dX6_less_26 : decode cX6_less 26 = .ok (.iload 4, 2) := by decide +kernel
theorem dX6_less_28 : decode cX6_less 28 = .ok (.iload 5, 2) := by decide +kernel
theorem dX6_less_30 : decode cX6_less 30 = .ok (.if_icmp .eq 16, 3) := by decide +kernel
theorem dX6_less_33 : decode cX6_less 33 = .ok (.iload 4, 2) := by decide +kernel
theorem dX6_less_35 : decode cX6_less 35 = .ok (.iload 5, 2) := by decide +kernel
theorem dX6_less_37 : decode cX6_less 37 = .ok (.if_icmp .ge 7, 3) := by decide +kernel
theorem dX6_less_40 : decode cX6_less 40 = .ok (.iconst 1, 1) := by decide +kernel
theorem dX6_less_41 : decode cX6_less 41 = .ok (.goto 4, 3) := by decide +kernel
theorem dX6_less_44 : decode cX6_less 44 = .ok (.iconst 0, 1) := by decide +kernel
theorem dX6_less_45 : decode cX6_less 45 = .ok (.ireturn, 1) := by decide +kernel
theorem dX6_less_46 : decode cX6_less 46 = .ok (.iload 4, 2) := by decide +kernel
theorem dX6_less_48 : decode cX6_less 48 = .ok (.ifCond .ne 5, 3) := by decide +kernel
theorem dX6_less_51 : decode cX6_less 51 = .ok (.iconst 0, 1) := by decide +kernel
theorem dX6_less_52 : decode cX6_less 52 = .ok (.ireturn, 1) := by decide +kernel
theorem dX6_less_53 : decode cX6_less 53 = .ok (.iinc 3 1, 3) := by decide +kernel
theorem dX6_less_56 : decode cX6_less 56 = .ok (.goto (-54), 3) := by decide +kernel
theorem dX6_less_59 : decode cX6_less 59 = .ok (.iconst 0, 1) := by decide +kernel
theorem dX6_less_60 : decode cX6_less 60 = .ok (.ireturn, 1) := by decide +kernel
theorem dX6_before_0 : decode cX6_before 0 = .ok (.iconst 0, 1) := by decide +kernel
theorem dX6_before_1 : decode cX6_before 1 = .ok (.istore_n 2, 1) := by decide +kernel
theorem dX6_before_2 : decode cX6_before 2 = .ok (.iconst 0, 1) := by decide +kernel
theorem dX6_before_3 : decode cX6_before 3 = .ok (.istore_n 3, 1) := by decide +kernel
theorem dX6_before_4 : decode cX6_before 4 = .ok (.iload_n 3, 1) := by decide +kernel
theorem dX6_before_5 : decode cX6_before 5 = .ok (.aload_n 0, 1) := by decide +kernel
theorem dX6_before_6 : decode cX6_before 6 = .ok (.getfield 45, 3) := by decide +kernel
theorem dX6_before_9 : decode cX6_before 9 = .ok (.if_icmp .gt 26, 3) := by decide +kernel
theorem dX6_before_12 : decode cX6_before 12 = .ok (.aload_n 0, 1) := by decide +kernel
theorem dX6_before_13 : decode cX6_before 13 = .ok (.iload_n 3, 1) := by decide +kernel
theorem dX6_before_14 : decode cX6_before 14 = .ok (.iload_n 1, 1) := by decide +kernel
theorem dX6_before_15 : decode cX6_before 15 = .ok (.invokevirtual 55, 3) := by decide +kernel
theorem dX6_before_18 : decode cX6_before 18 = .ok (.ifCond .eq 9, 3) := by decide +kernel
theorem dX6_before_21 : decode cX6_before 21 = .ok (.iload_n 2, 1) := by decide +kernel
theorem dX6_before_22 : decode cX6_before 22 = .ok (.iconst 1, 1) := by decide +kernel
theorem dX6_before_23 : decode cX6_before 23 = .ok (.iadd, 1) := by decide +kernel
theorem dX6_before_24 : decode cX6_before 24 = .ok (.goto 4, 3) := by decide +kernel
theorem dX6_before_27 : decode cX6_before 27 = .ok (.iload_n 2, 1) := by decide +kernel
theorem dX6_before_28 : decode cX6_before 28 = .ok (.istore_n 2, 1) := by decide +kernel
theorem dX6_before_29 : decode cX6_before 29 = .ok (.iinc 3 1, 3) := by decide +kernel
theorem dX6_before_32 : decode cX6_before 32 = .ok (.goto (-28), 3) := by decide +kernel
theorem dX6_before_35 : decode cX6_before 35 = .ok (.iload_n 2, 1) := by decide +kernel
theorem dX6_before_36 : decode cX6_before 36 = .ok (.ireturn, 1) := by decide +kernel
theorem dX6_row_0 : decode cX6_row 0 = .ok (.iconst 0, 1) := by decide +kernel
theorem dX6_row_1 : decode cX6_row 1 = .ok (.istore_n 2, 1) := by decide +kernel
theorem dX6_row_2 : decode cX6_row 2 = .ok (.iload_n 2, 1) := by decide +kernel
theorem dX6_row_3 : decode cX6_row 3 = .ok (.aload_n 0, 1) := by decide +kernel
theorem dX6_row_4 : decode cX6_row 4 = .ok (.getfield 45, 3) := by decide +kernel
theorem dX6_row_7 : decode cX6_row 7 = .ok (.if_icmp .gt 20, 3) := by decide +kernel
theorem dX6_row_10 : decode cX6_row 10 = .ok (.aload_n 0, 1) := by decide +kernel
theorem dX6_row_11 : decode cX6_row 11 = .ok (.iload_n 2, 1) := by decide +kernel
theorem dX6_row_12 : decode cX6_row 12 = .ok (.invokevirtual 59, 3) := by decide +kernel
theorem dX6_row_15 : decode cX6_row 15 = .ok (.iload_n 1, 1) := by decide +kernel
theorem dX6_row_16 : decode cX6_row 16 = .ok (.if_icmp .ne 5, 3) := by decide +kernel
theorem dX6_row_19 : decode cX6_row 19 = .ok (.iload_n 2, 1) := by decide +kernel
theorem dX6_row_20 : decode cX6_row 20 = .ok (.ireturn, 1) := by decide +kernel
theorem dX6_row_21 : decode cX6_row 21 = .ok (.iinc 2 1, 3) := by decide +kernel
theorem dX6_row_24 : decode cX6_row 24 = .ok (.goto (-22), 3) := by decide +kernel
theorem dX6_row_27 : decode cX6_row 27 = .ok (.iconst (-1), 1) := by decide +kernel
theorem dX6_row_28 : decode cX6_row 28 = .ok (.ireturn, 1) := by decide +kernel
theorem dX6_base_0 : decode cX6_base 0 = .ok (.iload_n 1, 1) := by decide +kernel
theorem dX6_base_1 : decode cX6_base 1 = .ok (.ifCond .lt 17, 3) := by decide +kernel
theorem dX6_base_4 : decode cX6_base 4 = .ok (.iload_n 1, 1) := by decide +kernel
theorem dX6_base_5 : decode cX6_base 5 = .ok (.iconst 4, 1) := by decide +kernel
theorem dX6_base_6 : decode cX6_base 6 = .ok (.if_icmp .gt 12, 3) := by decide +kernel
theorem dX6_base_9 : decode cX6_base 9 = .ok (.aload_n 0, 1) := by decide +kernel
theorem dX6_base_10 : decode cX6_base 10 = .ok (.getfield 45, 3) := by decide +kernel
theorem dX6_base_13 : decode cX6_base 13 = .ok (.bipush 96, 2) := by decide +kernel
theorem dX6_base_15 : decode cX6_base 15 = .ok (.if_icmp .ne 5, 3) := by decide +kernel
theorem dX6_base_18 : decode cX6_base 18 = .ok (.iconst 0, 1) := by decide +kernel
theorem dX6_base_19 : decode cX6_base 19 = .ok (.ireturn, 1) := by decide +kernel
theorem dX6_base_20 : decode cX6_base 20 = .ok (.aload_n 0, 1) := by decide +kernel
theorem dX6_base_21 : decode cX6_base 21 = .ok (.getfield 7, 3) := by decide +kernel
theorem dX6_base_24 : decode cX6_base 24 = .ok (.aload_n 0, 1) := by decide +kernel
theorem dX6_base_25 : decode cX6_base 25 = .ok (.getfield 45, 3) := by decide +kernel
theorem dX6_base_28 : decode cX6_base 28 = .ok (.iload_n 1, 1) := by decide +kernel
theorem dX6_base_29 : decode cX6_base 29 = .ok (.iastore, 1) := by decide +kernel
theorem dX6_base_30 : decode cX6_base 30 = .ok (.aload_n 0, 1) := by decide +kernel
theorem dX6_base_31 : decode cX6_base 31 = .ok (.dup, 1) := by decide +kernel
theorem dX6_base_32 : decode cX6_base 32 = .ok (.getfield 45, 3) := by decide +kernel
theorem dX6_base_35 : decode cX6_base 35 = .ok (.iconst 1, 1) := by decide +kernel
theorem dX6_base_36 : decode cX6_base 36 = .ok (.iadd, 1) := by decide +kernel
theorem dX6_base_37 : decode cX6_base 37 = .ok (.putfield 45, 3) := by decide +kernel
theorem dX6_base_40 : decode cX6_base 40 = .ok (.iconst 1, 1) := by decide +kernel
theorem dX6_base_41 : decode cX6_base 41 = .ok (.ireturn, 1) := by decide +kernel
theorem dX6_clear_0 : decode cX6_clear 0 = .ok (.aload_n 0, 1) := by decide +kernel
theorem dX6_clear_1 : decode cX6_clear 1 = .ok (.iconst 0, 1) := by decide +kernel
theorem dX6_clear_2 : decode cX6_clear 2 = .ok (.putfield 45, 3) := by decide +kernel
theorem dX6_clear_5 : decode cX6_clear 5 = .ok (.return_, 1) := by decide +kernel
theorem dX6_read_0 : decode cX6_read 0 = .ok (.iload_n 1, 1) := by decide +kernel
theorem dX6_read_1 : decode cX6_read 1 = .ok (.ifCond .lt 17, 3) := by decide +kernel
theorem dX6_read_4 : decode cX6_read 4 = .ok (.iload_n 1, 1) := by decide +kernel
theorem dX6_read_5 : decode cX6_read 5 = .ok (.iconst 3, 1) := by decide +kernel
theorem dX6_read_6 : decode cX6_read 6 = .ok (.if_icmp .gt 12, 3) := by decide +kernel
theorem dX6_read_9 : decode cX6_read 9 = .ok (.aload_n 0, 1) := by decide +kernel
theorem dX6_read_10 : decode cX6_read 10 = .ok (.getfield 48, 3) := by decide +kernel
theorem dX6_read_13 : decode cX6_read 13 = .ok (.bipush 24, 2) := by decide +kernel
theorem dX6_read_15 : decode cX6_read 15 = .ok (.if_icmp .ne 5, 3) := by decide +kernel
theorem dX6_read_18 : decode cX6_read 18 = .ok (.iconst 0, 1) := by decide +kernel
theorem dX6_read_19 : decode cX6_read 19 = .ok (.ireturn, 1) := by decide +kernel
theorem dX6_read_20 : decode cX6_read 20 = .ok (.aload_n 0, 1) := by decide +kernel
theorem dX6_read_21 : decode cX6_read 21 = .ok (.getfield 13, 3) := by decide +kernel
theorem dX6_read_24 : decode cX6_read 24 = .ok (.aload_n 0, 1) := by decide +kernel
theorem dX6_read_25 : decode cX6_read 25 = .ok (.getfield 48, 3) := by decide +kernel
theorem dX6_read_28 : decode cX6_read 28 = .ok (.iload_n 1, 1) := by decide +kernel
theorem dX6_read_29 : decode cX6_read 29 = .ok (.iastore, 1) := by decide +kernel
theorem dX6_read_30 : decode cX6_read 30 = .ok (.aload_n 0, 1) := by decide +kernel
theorem dX6_read_31 : decode cX6_read 31 = .ok (.dup, 1) := by decide +kernel
theorem dX6_read_32 : decode cX6_read 32 = .ok (.getfield 48, 3) := by decide +kernel
theorem dX6_read_35 : decode cX6_read 35 = .ok (.iconst 1, 1) := by decide +kernel
theorem dX6_read_36 : decode cX6_read 36 = .ok (.iadd, 1) := by decide +kernel
theorem dX6_read_37 : decode cX6_read 37 = .ok (.putfield 48, 3) := by decide +kernel
theorem dX6_read_40 : decode cX6_read 40 = .ok (.iconst 1, 1) := by decide +kernel
theorem dX6_read_41 : decode cX6_read 41 = .ok (.ireturn, 1) := by decide +kernel
theorem dX6_wipe_0 : decode cX6_wipe 0 = .ok (.aload_n 0, 1) := by decide +kernel
theorem dX6_wipe_1 : decode cX6_wipe 1 = .ok (.iconst 0, 1) := by decide +kernel
theorem dX6_wipe_2 : decode cX6_wipe 2 = .ok (.putfield 48, 3) := by decide +kernel
theorem dX6_wipe_5 : decode cX6_wipe 5 = .ok (.return_, 1) := by decide +kernel
theorem dX6_symbol_0 : decode cX6_symbol 0 = .ok (.iload_n 1, 1) := by decide +kernel
theorem dX6_symbol_1 : decode cX6_symbol 1 = .ok (.ifCond .ne 12, 3) := by decide +kernel
theorem dX6_symbol_4 : decode cX6_symbol 4 = .ok (.aload_n 0, 1) := by decide +kernel
theorem dX6_symbol_5 : decode cX6_symbol 5 = .ok (.getfield 13, 3) := by decide +kernel
theorem dX6_symbol_8 : decode cX6_symbol 8 = .ok (.iload_n 2, 1) := by decide +kernel
theorem dX6_symbol_9 : decode cX6_symbol 9 = .ok (.iaload, 1) := by decide +kernel
theorem dX6_symbol_10 : decode cX6_symbol 10 = .ok (.goto 18, 3) := by decide +kernel
theorem dX6_symbol_13 : decode cX6_symbol 13 = .ok (.iconst 3, 1) := by decide +kernel
theorem dX6_symbol_14 : decode cX6_symbol 14 = .ok (.aload_n 0, 1) := by decide +kernel
theorem dX6_symbol_15 : decode cX6_symbol 15 = .ok (.getfield 13, 3) := by decide +kernel
theorem dX6_symbol_18 : decode cX6_symbol 18 = .ok (.aload_n 0, 1) := by decide +kernel
theorem dX6_symbol_19 : decode cX6_symbol 19 = .ok (.getfield 48, 3) := by decide +kernel
theorem dX6_symbol_22 : decode cX6_symbol 22 = .ok (.iconst 1, 1) := by decide +kernel
theorem dX6_symbol_23 : decode cX6_symbol 23 = .ok (.isub, 1) := by decide +kernel
theorem dX6_symbol_24 : decode cX6_symbol 24 = .ok (.iload_n 2, 1) := by decide +kernel
theorem dX6_symbol_25 : decode cX6_symbol 25 = .ok (.isub, 1) := by decide +kernel
theorem dX6_symbol_26 : decode cX6_symbol 26 = .ok (.iaload, 1) := by decide +kernel
theorem dX6_symbol_27 : decode cX6_symbol 27 = .ok (.isub, 1) := by decide +kernel
theorem dX6_symbol_28 : decode cX6_symbol 28 = .ok (.ireturn, 1) := by decide +kernel
theorem dX6_turn_0 : decode cX6_turn 0 = .ok (.iconst 0, 1) := by decide +kernel
theorem dX6_turn_1 : decode cX6_turn 1 = .ok (.istore_n 1, 1) := by decide +kernel
theorem dX6_turn_2 : decode cX6_turn 2 = .ok (.iload_n 1, 1) := by decide +kernel
theorem dX6_turn_3 : decode cX6_turn 3 = .ok (.aload_n 0, 1) := by decide +kernel
theorem dX6_turn_4 : decode cX6_turn 4 = .ok (.getfield 48, 3) := by decide +kernel
theorem dX6_turn_7 : decode cX6_turn 7 = .ok (.iconst 1, 1) := by decide +kernel
theorem dX6_turn_8 : decode cX6_turn 8 = .ok (.iadd, 1) := by decide +kernel
theorem dX6_turn_9 : decode cX6_turn 9 = .ok (.iconst 2, 1) := by decide +kernel
theorem dX6_turn_10 : decode cX6_turn 10 = .ok (.idiv, 1) := by decide +kernel
theorem dX6_turn_11 : decode cX6_turn 11 = .ok (.if_icmp .ge 53, 3) := by decide +kernel
theorem dX6_turn_14 : decode cX6_turn 14 = .ok (.iconst 3, 1) := by decide +kernel
theorem dX6_turn_15 : decode cX6_turn 15 = .ok (.aload_n 0, 1) := by decide +kernel
theorem dX6_turn_16 : decode cX6_turn 16 = .ok (.getfield 13, 3) := by decide +kernel
theorem dX6_turn_19 : decode cX6_turn 19 = .ok (.iload_n 1, 1) := by decide +kernel
theorem dX6_turn_20 : decode cX6_turn 20 = .ok (.iaload, 1) := by decide +kernel
theorem dX6_turn_21 : decode cX6_turn 21 = .ok (.isub, 1) := by decide +kernel
theorem dX6_turn_22 : decode cX6_turn 22 = .ok (.istore_n 2, 1) := by decide +kernel
theorem dX6_turn_23 : decode cX6_turn 23 = .ok (.aload_n 0, 1) := by decide +kernel
theorem dX6_turn_24 : decode cX6_turn 24 = .ok (.getfield 13, 3) := by decide +kernel
theorem dX6_turn_27 : decode cX6_turn 27 = .ok (.iload_n 1, 1) := by decide +kernel
theorem dX6_turn_28 : decode cX6_turn 28 = .ok (.iconst 3, 1) := by decide +kernel
theorem dX6_turn_29 : decode cX6_turn 29 = .ok (.aload_n 0, 1) := by decide +kernel
theorem dX6_turn_30 : decode cX6_turn 30 = .ok (.getfield 13, 3) := by decide +kernel
theorem dX6_turn_33 : decode cX6_turn 33 = .ok (.aload_n 0, 1) := by decide +kernel
theorem dX6_turn_34 : decode cX6_turn 34 = .ok (.getfield 48, 3) := by decide +kernel
theorem dX6_turn_37 : decode cX6_turn 37 = .ok (.iconst 1, 1) := by decide +kernel
theorem dX6_turn_38 : decode cX6_turn 38 = .ok (.isub, 1) := by decide +kernel
theorem dX6_turn_39 : decode cX6_turn 39 = .ok (.iload_n 1, 1) := by decide +kernel
theorem dX6_turn_40 : decode cX6_turn 40 = .ok (.isub, 1) := by decide +kernel
theorem dX6_turn_41 : decode cX6_turn 41 = .ok (.iaload, 1) := by decide +kernel
theorem dX6_turn_42 : decode cX6_turn 42 = .ok (.isub, 1) := by decide +kernel
theorem dX6_turn_43 : decode cX6_turn 43 = .ok (.iastore, 1) := by decide +kernel
theorem dX6_turn_44 : decode cX6_turn 44 = .ok (.aload_n 0, 1) := by decide +kernel
theorem dX6_turn_45 : decode cX6_turn 45 = .ok (.getfield 13, 3) := by decide +kernel
theorem dX6_turn_48 : decode cX6_turn 48 = .ok (.aload_n 0, 1) := by decide +kernel
theorem dX6_turn_49 : decode cX6_turn 49 = .ok (.getfield 48, 3) := by decide +kernel
theorem dX6_turn_52 : decode cX6_turn 52 = .ok (.iconst 1, 1) := by decide +kernel
theorem dX6_turn_53 : decode cX6_turn 53 = .ok (.isub, 1) := by decide +kernel
theorem dX6_turn_54 : decode cX6_turn 54 = .ok (.iload_n 1, 1) := by decide +kernel
theorem dX6_turn_55 : decode cX6_turn 55 = .ok (.isub, 1) := by decide +kernel
theorem dX6_turn_56 : decode cX6_turn 56 = .ok (.iload_n 2, 1) := by decide +kernel
theorem dX6_turn_57 : decode cX6_turn 57 = .ok (.iastore, 1) := by decide +kernel
theorem dX6_turn_58 : decode cX6_turn 58 = .ok (.iinc 1 1, 3) := by decide +kernel
theorem dX6_turn_61 : decode cX6_turn 61 = .ok (.goto (-59), 3) := by decide +kernel
theorem dX6_turn_64 : decode cX6_turn 64 = .ok (.return_, 1) := by decide +kernel
theorem dX6_length_0 : decode cX6_length 0 = .ok (.iload_n 1, 1) := by decide +kernel
theorem dX6_length_1 : decode cX6_length 1 = .ok (.ifCond .eq 10, 3) := by decide +kernel
theorem dX6_length_4 : decode cX6_length 4 = .ok (.aload_n 0, 1) := by decide +kernel
theorem dX6_length_5 : decode cX6_length 5 = .ok (.getfield 48, 3) := by decide +kernel
theorem dX6_length_8 : decode cX6_length 8 = .ok (.goto 7, 3) := by decide +kernel
theorem dX6_length_11 : decode cX6_length 11 = .ok (.aload_n 0, 1) := by decide +kernel
theorem dX6_length_12 : decode cX6_length 12 = .ok (.getfield 45, 3) := by decide +kernel
theorem dX6_length_15 : decode cX6_length 15 = .ok (.ireturn, 1) := by decide +kernel
theorem dX6_hits_0 : decode cX6_hits 0 = .ok (.aload_n 0, 1) := by decide +kernel
theorem dX6_hits_1 : decode cX6_hits 1 = .ok (.getfield 117, 3) := by decide +kernel
theorem dX6_hits_4 : decode cX6_hits 4 = .ok (.ireturn, 1) := by decide +kernel
theorem dX6_size_0 : decode cX6_size 0 = .ok (.aload_n 0, 1) := by decide +kernel
theorem dX6_size_1 : decode cX6_size 1 = .ok (.getfield 120, 3) := by decide +kernel
theorem dX6_size_4 : decode cX6_size 4 = .ok (.ireturn, 1) := by decide +kernel
theorem dX6_mappings_0 : decode cX6_mappings 0 = .ok (.aload_n 0, 1) := by decide +kernel
theorem dX6_mappings_1 : decode cX6_mappings 1 = .ok (.getfield 102, 3) := by decide +kernel
theorem dX6_mappings_4 : decode cX6_mappings 4 = .ok (.ireturn, 1) := by decide +kernel
theorem dX6_hit_0 : decode cX6_hit 0 = .ok (.iload_n 1, 1) := by decide +kernel
theorem dX6_hit_1 : decode cX6_hit 1 = .ok (.ifCond .lt 20, 3) := by decide +kernel
theorem dX6_hit_4 : decode cX6_hit 4 = .ok (.iload_n 1, 1) := by decide +kernel
theorem dX6_hit_5 : decode cX6_hit 5 = .ok (.aload_n 0, 1) := by decide +kernel
theorem dX6_hit_6 : decode cX6_hit 6 = .ok (.getfield 117, 3) := by decide +kernel
theorem dX6_hit_9 : decode cX6_hit 9 = .ok (.if_icmp .ge 12, 3) := by decide +kernel
theorem dX6_hit_12 : decode cX6_hit 12 = .ok (.iload_n 2, 1) := by decide +kernel
theorem dX6_hit_13 : decode cX6_hit 13 = .ok (.ifCond .lt 8, 3) := by decide +kernel
theorem dX6_hit_16 : decode cX6_hit 16 = .ok (.iload_n 2, 1) := by decide +kernel
theorem dX6_hit_17 : decode cX6_hit 17 = .ok (.iconst 3, 1) := by decide +kernel
theorem dX6_hit_18 : decode cX6_hit 18 = .ok (.if_icmp .le 6, 3) := by decide +kernel
theorem dX6_hit_21 : decode cX6_hit 21 = .ok (.bipush (-2), 2) := by decide +kernel
theorem dX6_hit_23 : decode cX6_hit 23 = .ok (.ireturn, 1) := by decide +kernel
theorem dX6_hit_24 : decode cX6_hit 24 = .ok (.iload_n 2, 1) := by decide +kernel
theorem dX6_hit_25 : decode cX6_hit 25 = .ok (.ifCond .ne 12, 3) := by decide +kernel
theorem dX6_hit_28 : decode cX6_hit 28 = .ok (.aload_n 0, 1) := by decide +kernel
theorem dX6_hit_29 : decode cX6_hit 29 = .ok (.getfield 16, 3) := by decide +kernel
theorem dX6_hit_32 : decode cX6_hit 32 = .ok (.iload_n 1, 1) := by decide +kernel
theorem dX6_hit_33 : decode cX6_hit 33 = .ok (.iaload, 1) := by decide +kernel
theorem dX6_hit_34 : decode cX6_hit 34 = .ok (.goto 44, 3) := by decide +kernel
theorem dX6_hit_37 : decode cX6_hit 37 = .ok (.iload_n 2, 1) := by decide +kernel
theorem dX6_hit_38 : decode cX6_hit 38 = .ok (.iconst 1, 1) := by decide +kernel
theorem dX6_hit_39 : decode cX6_hit 39 = .ok (.if_icmp .ne 12, 3) := by decide +kernel
theorem dX6_hit_42 : decode cX6_hit 42 = .ok (.aload_n 0, 1) := by decide +kernel
theorem dX6_hit_43 : decode cX6_hit 43 = .ok (.getfield 19, 3) := by decide +kernel
theorem dX6_hit_46 : decode cX6_hit 46 = .ok (.iload_n 1, 1) := by decide +kernel
theorem dX6_hit_47 : decode cX6_hit 47 = .ok (.iaload, 1) := by decide +kernel
theorem dX6_hit_48 : decode cX6_hit 48 = .ok (.goto 30, 3) := by decide +kernel
theorem dX6_hit_51 : decode cX6_hit 51 = .ok (.iload_n 2, 1) := by decide +kernel
theorem dX6_hit_52 : decode cX6_hit 52 = .ok (.iconst 2, 1) := by decide +kernel
theorem dX6_hit_53 : decode cX6_hit 53 = .ok (.if_icmp .ne 12, 3) := by decide +kernel
theorem dX6_hit_56 : decode cX6_hit 56 = .ok (.aload_n 0, 1) := by decide +kernel
theorem dX6_hit_57 : decode cX6_hit 57 = .ok (.getfield 22, 3) := by decide +kernel
theorem dX6_hit_60 : decode cX6_hit 60 = .ok (.iload_n 1, 1) := by decide +kernel
theorem dX6_hit_61 : decode cX6_hit 61 = .ok (.iaload, 1) := by decide +kernel
theorem dX6_hit_62 : decode cX6_hit 62 = .ok (.goto 16, 3) := by decide +kernel
theorem dX6_hit_65 : decode cX6_hit 65 = .ok (.iload_n 1, 1) := by decide +kernel
theorem dX6_hit_66 : decode cX6_hit 66 = .ok (.aload_n 0, 1) := by decide +kernel
theorem dX6_hit_67 : decode cX6_hit 67 = .ok (.getfield 25, 3) := by decide +kernel
theorem dX6_hit_70 : decode cX6_hit 70 = .ok (.if_icmp .ne 7, 3) := by decide +kernel
theorem dX6_hit_73 : decode cX6_hit 73 = .ok (.iconst 1, 1) := by decide +kernel
theorem dX6_hit_74 : decode cX6_hit 74 = .ok (.goto 4, 3) := by decide +kernel
theorem dX6_hit_77 : decode cX6_hit 77 = .ok (.iconst 0, 1) := by decide +kernel
theorem dX6_hit_78 : decode cX6_hit 78 = .ok (.ireturn, 1) := by decide +kernel
