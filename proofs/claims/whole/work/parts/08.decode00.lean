theorem dX0_isFull_0 : decode cX0_isFull 0 = .ok (.aload_n 0, 1) := by decide +kernel
theorem dX0_isFull_1 : decode cX0_isFull 1 = .ok (.getfield 15, 3) := by decide +kernel
theorem dX0_isFull_4 : decode cX0_isFull 4 = .ok (.aload_n 0, 1) := by decide +kernel
theorem dX0_isFull_5 : decode cX0_isFull 5 = .ok (.getfield 9, 3) := by decide +kernel
theorem dX0_isFull_8 : decode cX0_isFull 8 = .ok (.arraylength, 1) := by decide +kernel
theorem dX0_isFull_9 : decode cX0_isFull 9 = .ok (.if_icmp .lt 7, 3) := by decide +kernel
theorem dX0_isFull_12 : decode cX0_isFull 12 = .ok (.iconst 1, 1) := by decide +kernel
theorem dX0_isFull_13 : decode cX0_isFull 13 = .ok (.goto 4, 3) := by decide +kernel
theorem dX0_isFull_16 : decode cX0_isFull 16 = .ok (.iconst 0, 1) := by decide +kernel
theorem dX0_isFull_17 : decode cX0_isFull 17 = .ok (.ireturn, 1) := by decide +kernel
theorem dX0_append_0 : decode cX0_append 0 = .ok (.aload_n 0, 1) := by decide +kernel
theorem dX0_append_1 : decode cX0_append 1 = .ok (.invokevirtual 19, 3) := by decide +kernel
theorem dX0_append_4 : decode cX0_append 4 = .ok (.ifCond .ne 23, 3) := by decide +kernel
theorem dX0_append_7 : decode cX0_append 7 = .ok (.aload_n 0, 1) := by decide +kernel
theorem dX0_append_8 : decode cX0_append 8 = .ok (.getfield 9, 3) := by decide +kernel
theorem dX0_append_11 : decode cX0_append 11 = .ok (.aload_n 0, 1) := by decide +kernel
theorem dX0_append_12 : decode cX0_append 12 = .ok (.getfield 15, 3) := by decide +kernel
theorem dX0_append_15 : decode cX0_append 15 = .ok (.iload_n 1, 1) := by decide +kernel
theorem dX0_append_16 : decode cX0_append 16 = .ok (.iastore, 1) := by decide +kernel
theorem dX0_append_17 : decode cX0_append 17 = .ok (.aload_n 0, 1) := by decide +kernel
theorem dX0_append_18 : decode cX0_append 18 = .ok (.dup, 1) := by decide +kernel
theorem dX0_append_19 : decode cX0_append 19 = .ok (.getfield 15, 3) := by decide +kernel
theorem dX0_append_22 : decode cX0_append 22 = .ok (.iconst 1, 1) := by decide +kernel
theorem dX0_append_23 : decode cX0_append 23 = .ok (.iadd, 1) := by decide +kernel
theorem dX0_append_24 : decode cX0_append 24 = .ok (.putfield 15, 3) := by decide +kernel
theorem dX0_append_27 : decode cX0_append 27 = .ok (.return_, 1) := by decide +kernel
theorem dX0_empty_0 : decode cX0_empty 0 = .ok (.aload_n 0, 1) := by decide +kernel
theorem dX0_empty_1 : decode cX0_empty 1 = .ok (.iconst 0, 1) := by decide +kernel
theorem dX0_empty_2 : decode cX0_empty 2 = .ok (.putfield 15, 3) := by decide +kernel
theorem dX0_empty_5 : decode cX0_empty 5 = .ok (.return_, 1) := by decide +kernel
theorem dX0_becomeTurned_0 : decode cX0_becomeTurned 0 = .ok (.aload_n 0, 1) := by decide +kernel
theorem dX0_becomeTurned_1 : decode cX0_becomeTurned 1 = .ok (.invokevirtual 23, 3) := by decide +kernel
theorem dX0_becomeTurned_4 : decode cX0_becomeTurned 4 = .ok (.aload_n 1, 1) := by decide +kernel
theorem dX0_becomeTurned_5 : decode cX0_becomeTurned 5 = .ok (.getfield 15, 3) := by decide +kernel
theorem dX0_becomeTurned_8 : decode cX0_becomeTurned 8 = .ok (.iconst 1, 1) := by decide +kernel
theorem dX0_becomeTurned_9 : decode cX0_becomeTurned 9 = .ok (.isub, 1) := by decide +kernel
theorem dX0_becomeTurned_10 : decode cX0_becomeTurned 10 = .ok (.istore_n 2, 1) := by decide +kernel
theorem dX0_becomeTurned_11 : decode cX0_becomeTurned 11 = .ok (.iload_n 2, 1) := by decide +kernel
theorem dX0_becomeTurned_12 : decode cX0_becomeTurned 12 = .ok (.ifCond .lt 21, 3) := by decide +kernel
theorem dX0_becomeTurned_15 : decode cX0_becomeTurned 15 = .ok (.aload_n 0, 1) := by decide +kernel
theorem dX0_becomeTurned_16 : decode cX0_becomeTurned 16 = .ok (.iconst 3, 1) := by decide +kernel
theorem dX0_becomeTurned_17 : decode cX0_becomeTurned 17 = .ok (.aload_n 1, 1) := by decide +kernel
theorem dX0_becomeTurned_18 : decode cX0_becomeTurned 18 = .ok (.getfield 9, 3) := by decide +kernel
theorem dX0_becomeTurned_21 : decode cX0_becomeTurned 21 = .ok (.iload_n 2, 1) := by decide +kernel
theorem dX0_becomeTurned_22 : decode cX0_becomeTurned 22 = .ok (.iaload, 1) := by decide +kernel
theorem dX0_becomeTurned_23 : decode cX0_becomeTurned 23 = .ok (.isub, 1) := by decide +kernel
theorem dX0_becomeTurned_24 : decode cX0_becomeTurned 24 = .ok (.invokevirtual 26, 3) := by decide +kernel
theorem dX0_becomeTurned_27 : decode cX0_becomeTurned 27 = .ok (.iinc 2 (-1), 3) := by decide +kernel
theorem dX0_becomeTurned_30 : decode cX0_becomeTurned 30 = .ok (.goto (-19), 3) := by decide +kernel
theorem dX0_becomeTurned_33 : decode cX0_becomeTurned 33 = .ok (.return_, 1) := by decide +kernel
theorem dX0_hasRoomAt_0 : decode cX0_hasRoomAt 0 = .ok (.iload_n 1, 1) := by decide +kernel
theorem dX0_hasRoomAt_1 : decode cX0_hasRoomAt 1 = .ok (.ifCond .lt 20, 3) := by decide +kernel
theorem dX0_hasRoomAt_4 : decode cX0_hasRoomAt 4 = .ok (.iload_n 1, 1) := by decide +kernel
theorem dX0_hasRoomAt_5 : decode cX0_hasRoomAt 5 = .ok (.aload_n 2, 1) := by decide +kernel
theorem dX0_hasRoomAt_6 : decode cX0_hasRoomAt 6 = .ok (.getfield 15, 3) := by decide +kernel
theorem dX0_hasRoomAt_9 : decode cX0_hasRoomAt 9 = .ok (.iadd, 1) := by decide +kernel
theorem dX0_hasRoomAt_10 : decode cX0_hasRoomAt 10 = .ok (.aload_n 0, 1) := by decide +kernel
theorem dX0_hasRoomAt_11 : decode cX0_hasRoomAt 11 = .ok (.getfield 15, 3) := by decide +kernel
theorem dX0_hasRoomAt_14 : decode cX0_hasRoomAt 14 = .ok (.if_icmp .gt 7, 3) := by decide +kernel
theorem dX0_hasRoomAt_17 : decode cX0_hasRoomAt 17 = .ok (.iconst 1, 1) := by decide +kernel
theorem dX0_hasRoomAt_18 : decode cX0_hasRoomAt 18 = .ok (.goto 4, 3) := by decide +kernel
theorem dX0_hasRoomAt_21 : decode cX0_hasRoomAt 21 = .ok (.iconst 0, 1) := by decide +kernel
theorem dX0_hasRoomAt_22 : decode cX0_hasRoomAt 22 = .ok (.ireturn, 1) := by decide +kernel
theorem dX0_mismatchesAt_0 : decode cX0_mismatchesAt 0 = .ok (.iconst 0, 1) := by decide +kernel
theorem dX0_mismatchesAt_1 : decode cX0_mismatchesAt 1 = .ok (.istore 4, 2) := by decide +kernel
theorem dX0_mismatchesAt_3 : decode cX0_mismatchesAt 3 = .ok (.iconst 0, 1) := by decide +kernel
theorem dX0_mismatchesAt_4 : decode cX0_mismatchesAt 4 = .ok (.istore 5, 2) := by decide +kernel
theorem dX0_mismatchesAt_6 : decode cX0_mismatchesAt 6 = .ok (.iload 5, 2) := by decide +kernel
theorem dX0_mismatchesAt_8 : decode cX0_mismatchesAt 8 = .ok (.aload_n 2, 1) := by decide +kernel
theorem dX0_mismatchesAt_9 : decode cX0_mismatchesAt 9 = .ok (.getfield 15, 3) := by decide +kernel
theorem dX0_mismatchesAt_12 : decode cX0_mismatchesAt 12 = .ok (.if_icmp .ge 37, 3) := by decide +kernel
theorem dX0_mismatchesAt_15 : decode cX0_mismatchesAt 15 = .ok (.iload 4, 2) := by decide +kernel
theorem dX0_mismatchesAt_17 : decode cX0_mismatchesAt 17 = .ok (.iload_n 3, 1) := by decide +kernel
theorem dX0_mismatchesAt_18 : decode cX0_mismatchesAt 18 = .ok (.if_icmp .gt 31, 3) := by decide +kernel
theorem dX0_mismatchesAt_21 : decode cX0_mismatchesAt 21 = .ok (.aload_n 0, 1) := by decide +kernel
theorem dX0_mismatchesAt_22 : decode cX0_mismatchesAt 22 = .ok (.getfield 9, 3) := by decide +kernel
theorem dX0_mismatchesAt_25 : decode cX0_mismatchesAt 25 = .ok (.iload_n 1, 1) := by decide +kernel
theorem dX0_mismatchesAt_26 : decode cX0_mismatchesAt 26 = .ok (.iload 5, 2) := by decide +kernel
theorem dX0_mismatchesAt_28 : decode cX0_mismatchesAt 28 = .ok (.iadd, 1) := by decide +kernel
theorem dX0_mismatchesAt_29 : decode cX0_mismatchesAt 29 = .ok (.iaload, 1) := by decide +kernel
theorem dX0_mismatchesAt_30 : decode cX0_mismatchesAt 30 = .ok (.aload_n 2, 1) := by decide +kernel
theorem dX0_mismatchesAt_31 : decode cX0_mismatchesAt 31 = .ok (.getfield 9, 3) := by decide +kernel
theorem dX0_mismatchesAt_34 : decode cX0_mismatchesAt 34 = .ok (.iload 5, 2) := by decide +kernel
theorem dX0_mismatchesAt_36 : decode cX0_mismatchesAt 36 = .ok (.iaload, 1) := by decide +kernel
theorem dX0_mismatchesAt_37 : decode cX0_mismatchesAt 37 = .ok (.if_icmp .eq 6, 3) := by decide +kernel
theorem dX0_mismatchesAt_40 : decode cX0_mismatchesAt 40 = .ok (.iinc 4 1, 3) := by decide +kernel
theorem dX0_mismatchesAt_43 : decode cX0_mismatchesAt 43 = .ok (.iinc 5 1, 3) := by decide +kernel
theorem dX0_mismatchesAt_46 : decode cX0_mismatchesAt 46 = .ok (.goto (-40), 3) := by decide +kernel
theorem dX0_mismatchesAt_49 : decode cX0_mismatchesAt 49 = .ok (.iload 4, 2) := by decide +kernel
theorem dX0_mismatchesAt_51 : decode cX0_mismatchesAt 51 = .ok (.ireturn, 1) := by decide +kernel
theorem dX0_holdsAt_0 : decode cX0_holdsAt 0 = .ok (.aload_n 0, 1) := by decide +kernel
theorem dX0_holdsAt_1 : decode cX0_holdsAt 1 = .ok (.iload_n 1, 1) := by decide +kernel
theorem dX0_holdsAt_2 : decode cX0_holdsAt 2 = .ok (.aload_n 2, 1) := by decide +kernel
theorem dX0_holdsAt_3 : decode cX0_holdsAt 3 = .ok (.invokevirtual 30, 3) := by decide +kernel
theorem dX0_holdsAt_6 : decode cX0_holdsAt 6 = .ok (.ifCond .eq 17, 3) := by decide +kernel
theorem dX0_holdsAt_9 : decode cX0_holdsAt 9 = .ok (.aload_n 0, 1) := by decide +kernel
theorem dX0_holdsAt_10 : decode cX0_holdsAt 10 = .ok (.iload_n 1, 1) := by decide +kernel
theorem dX0_holdsAt_11 : decode cX0_holdsAt 11 = .ok (.aload_n 2, 1) := by decide +kernel
theorem dX0_holdsAt_12 : decode cX0_holdsAt 12 = .ok (.iconst 0, 1) := by decide +kernel
theorem dX0_holdsAt_13 : decode cX0_holdsAt 13 = .ok (.invokevirtual 34, 3) := by decide +kernel
theorem dX0_holdsAt_16 : decode cX0_holdsAt 16 = .ok (.ifCond .ne 7, 3) := by decide +kernel
theorem dX0_holdsAt_19 : decode cX0_holdsAt 19 = .ok (.iconst 1, 1) := by decide +kernel
theorem dX0_holdsAt_20 : decode cX0_holdsAt 20 = .ok (.goto 4, 3) := by decide +kernel
theorem dX0_holdsAt_23 : decode cX0_holdsAt 23 = .ok (.iconst 0, 1) := by decide +kernel
theorem dX0_holdsAt_24 : decode cX0_holdsAt 24 = .ok (.ireturn, 1) := by decide +kernel
theorem dX4_forget_0 : decode cX4_forget 0 = .ok (.aload_n 0, 1) := by decide +kernel
theorem dX4_forget_1 : decode cX4_forget 1 = .ok (.iconst 0, 1) := by decide +kernel
theorem dX4_forget_2 : decode cX4_forget 2 = .ok (.putfield 22, 3) := by decide +kernel
theorem dX4_forget_5 : decode cX4_forget 5 = .ok (.return_, 1) := by decide +kernel
theorem dX4_rows_0 : decode cX4_rows 0 = .ok (.aload_n 0, 1) := by decide +kernel
theorem dX4_rows_1 : decode cX4_rows 1 = .ok (.getfield 9, 3) := by decide +kernel
theorem dX4_rows_4 : decode cX4_rows 4 = .ok (.getfield 26, 3) := by decide +kernel
theorem dX4_rows_7 : decode cX4_rows 7 = .ok (.iconst 1, 1) := by decide +kernel
theorem dX4_rows_8 : decode cX4_rows 8 = .ok (.iadd, 1) := by decide +kernel
theorem dX4_rows_9 : decode cX4_rows 9 = .ok (.ireturn, 1) := by decide +kernel
theorem dX4_hasRow_0 : decode cX4_hasRow 0 = .ok (.iload_n 1, 1) := by decide +kernel
theorem dX4_hasRow_1 : decode cX4_hasRow 1 = .ok (.ifCond .lt 15, 3) := by decide +kernel
theorem dX4_hasRow_4 : decode cX4_hasRow 4 = .ok (.iload_n 1, 1) := by decide +kernel
theorem dX4_hasRow_5 : decode cX4_hasRow 5 = .ok (.aload_n 0, 1) := by decide +kernel
theorem dX4_hasRow_6 : decode cX4_hasRow 6 = .ok (.invokevirtual 32, 3) := by decide +kernel
theorem dX4_hasRow_9 : decode cX4_hasRow 9 = .ok (.if_icmp .ge 7, 3) := by decide +kernel
theorem dX4_hasRow_12 : decode cX4_hasRow 12 = .ok (.iconst 1, 1) := by decide +kernel
theorem dX4_hasRow_13 : decode cX4_hasRow 13 = .ok (.goto 4, 3) := by decide +kernel
theorem dX4_hasRow_16 : decode cX4_hasRow 16 = .ok (.iconst 0, 1) := by decide +kernel
theorem dX4_hasRow_17 : decode cX4_hasRow 17 = .ok (.ireturn, 1) := by decide +kernel
theorem dX4_insert_0 : decode cX4_insert 0 = .ok (.aload_n 0, 1) := by decide +kernel
theorem dX4_insert_1 : decode cX4_insert 1 = .ok (.getfield 9, 3) := by decide +kernel
theorem dX4_insert_4 : decode cX4_insert 4 = .ok (.getfield 43, 3) := by decide +kernel
theorem dX4_insert_7 : decode cX4_insert 7 = .ok (.iload_n 1, 1) := by decide +kernel
theorem dX4_insert_8 : decode cX4_insert 8 = .ok (.iaload, 1) := by decide +kernel
theorem dX4_insert_9 : decode cX4_insert 9 = .ok (.istore_n 2, 1) := by decide +kernel
theorem dX4_insert_10 : decode cX4_insert 10 = .ok (.aload_n 0, 1) := by decide +kernel
theorem dX4_insert_11 : decode cX4_insert 11 = .ok (.getfield 15, 3) := by decide +kernel
theorem dX4_insert_14 : decode cX4_insert 14 = .ok (.iload_n 1, 1) := by decide +kernel
theorem dX4_insert_15 : decode cX4_insert 15 = .ok (.iconst 1, 1) := by decide +kernel
theorem dX4_insert_16 : decode cX4_insert 16 = .ok (.iadd, 1) := by decide +kernel
theorem dX4_insert_17 : decode cX4_insert 17 = .ok (.iaload, 1) := by decide +kernel
theorem dX4_insert_18 : decode cX4_insert 18 = .ok (.istore_n 3, 1) := by decide +kernel
theorem dX4_insert_19 : decode cX4_insert 19 = .ok (.iconst 1, 1) := by decide +kernel
theorem dX4_insert_20 : decode cX4_insert 20 = .ok (.istore 4, 2) := by decide +kernel
theorem dX4_insert_22 : decode cX4_insert 22 = .ok (.iload_n 1, 1) := by decide +kernel
theorem dX4_insert_23 : decode cX4_insert 23 = .ok (.iconst 1, 1) := by decide +kernel
theorem dX4_insert_24 : decode cX4_insert 24 = .ok (.iadd, 1) := by decide +kernel
theorem dX4_insert_25 : decode cX4_insert 25 = .ok (.istore 5, 2) := by decide +kernel
theorem dX4_insert_27 : decode cX4_insert 27 = .ok (.iload 5, 2) := by decide +kernel
theorem dX4_insert_29 : decode cX4_insert 29 = .ok (.aload_n 0, 1) := by decide +kernel
theorem dX4_insert_30 : decode cX4_insert 30 = .ok (.getfield 9, 3) := by decide +kernel
theorem dX4_insert_33 : decode cX4_insert 33 = .ok (.getfield 26, 3) := by decide +kernel
theorem dX4_insert_36 : decode cX4_insert 36 = .ok (.if_icmp .ge 75, 3) := by decide +kernel
theorem dX4_insert_39 : decode cX4_insert 39 = .ok (.aload_n 0, 1) := by decide +kernel
theorem dX4_insert_40 : decode cX4_insert 40 = .ok (.getfield 9, 3) := by decide +kernel
theorem dX4_insert_43 : decode cX4_insert 43 = .ok (.getfield 43, 3) := by decide +kernel
theorem dX4_insert_46 : decode cX4_insert 46 = .ok (.iload 5, 2) := by decide +kernel
theorem dX4_insert_48 : decode cX4_insert 48 = .ok (.iaload, 1) := by decide +kernel
theorem dX4_insert_49 : decode cX4_insert 49 = .ok (.istore 6, 2) := by decide +kernel
theorem dX4_insert_51 : decode cX4_insert 51 = .ok (.iload 6, 2) := by decide +kernel
theorem dX4_insert_53 : decode cX4_insert 53 = .ok (.iload_n 2, 1) := by decide +kernel
theorem dX4_insert_54 : decode cX4_insert 54 = .ok (.if_icmp .lt 22, 3) := by decide +kernel
theorem dX4_insert_57 : decode cX4_insert 57 = .ok (.iload 6, 2) := by decide +kernel
theorem dX4_insert_59 : decode cX4_insert 59 = .ok (.iload_n 2, 1) := by decide +kernel
theorem dX4_insert_60 : decode cX4_insert 60 = .ok (.if_icmp .ne 20, 3) := by decide +kernel
theorem dX4_insert_63 : decode cX4_insert 63 = .ok (.aload_n 0, 1) := by decide +kernel
theorem dX4_insert_64 : decode cX4_insert 64 = .ok (.getfield 15, 3) := by decide +kernel
theorem dX4_insert_67 : decode cX4_insert 67 = .ok (.iload 5, 2) := by decide +kernel
theorem dX4_insert_69 : decode cX4_insert 69 = .ok (.iconst 1, 1) := by decide +kernel
theorem dX4_insert_70 : decode cX4_insert 70 = .ok (.iadd, 1) := by decide +kernel
theorem dX4_insert_71 : decode cX4_insert 71 = .ok (.iaload, 1) := by decide +kernel
theorem dX4_insert_72 : decode cX4_insert 72 = .ok (.iload_n 3, 1) := by decide +kernel
theorem dX4_insert_73 : decode cX4_insert 73 = .ok (.if_icmp .ge 7, 3) := by decide +kernel
theorem dX4_insert_76 : decode cX4_insert 76 = .ok (.iconst 1, 1) := by decide +kernel
theorem dX4_insert_77 : decode cX4_insert 77 = .ok (.goto 4, 3) := by decide +kernel
theorem dX4_insert_80 : decode cX4_insert 80 = .ok (.iconst 0, 1) := by decide +kernel
theorem dX4_insert_81 : decode cX4_insert 81 = .ok (.istore 7, 2) := by decide +kernel
theorem dX4_insert_83 : decode cX4_insert 83 = .ok (.iload 7, 2) := by decide +kernel
theorem dX4_insert_85 : decode cX4_insert 85 = .ok (.ifCond .eq 9, 3) := by decide +kernel
theorem dX4_insert_88 : decode cX4_insert 88 = .ok (.iinc 4 1, 3) := by decide +kernel
theorem dX4_insert_91 : decode cX4_insert 91 = .ok (.goto 14, 3) := by decide +kernel
theorem dX4_insert_94 : decode cX4_insert 94 = .ok (.aload_n 0, 1) := by decide +kernel
theorem dX4_insert_95 : decode cX4_insert 95 = .ok (.getfield 15, 3) := by decide +kernel
theorem dX4_insert_98 : decode cX4_insert 98 = .ok (.iload 5, 2) := by decide +kernel
theorem dX4_insert_100 : decode cX4_insert 100 = .ok (.dup2, 1) := by decide +kernel
theorem dX4_insert_101 : decode cX4_insert 101 = .ok (.iaload, 1) := by decide +kernel
theorem dX4_insert_102 : decode cX4_insert 102 = .ok (.iconst 1, 1) := by decide +kernel
theorem dX4_insert_103 : decode cX4_insert 103 = .ok (.iadd, 1) := by decide +kernel
theorem dX4_insert_104 : decode cX4_insert 104 = .ok (.iastore, 1) := by decide +kernel
theorem dX4_insert_105 : decode cX4_insert 105 = .ok (.iinc 5 1, 3) := by decide +kernel
theorem dX4_insert_108 : decode cX4_insert 108 = .ok (.goto (-81), 3) := by decide +kernel
theorem dX4_insert_111 : decode cX4_insert 111 = .ok (.aload_n 0, 1) := by decide +kernel
theorem dX4_insert_112 : decode cX4_insert 112 = .ok (.getfield 15, 3) := by decide +kernel
theorem dX4_insert_115 : decode cX4_insert 115 = .ok (.iload_n 1, 1) := by decide +kernel
theorem dX4_insert_116 : decode cX4_insert 116 = .ok (.iload 4, 2) := by decide +kernel
theorem dX4_insert_118 : decode cX4_insert 118 = .ok (.iastore, 1) := by decide +kernel
theorem dX4_insert_119 : decode cX4_insert 119 = .ok (.return_, 1) := by decide +kernel
theorem dX4_sort_0 : decode cX4_sort 0 = .ok (.aload_n 0, 1) := by decide +kernel
theorem dX4_sort_1 : decode cX4_sort 1 = .ok (.getfield 15, 3) := by decide +kernel
theorem dX4_sort_4 : decode cX4_sort 4 = .ok (.aload_n 0, 1) := by decide +kernel
theorem dX4_sort_5 : decode cX4_sort 5 = .ok (.getfield 9, 3) := by decide +kernel
theorem dX4_sort_8 : decode cX4_sort 8 = .ok (.getfield 26, 3) := by decide +kernel
theorem dX4_sort_11 : decode cX4_sort 11 = .ok (.iconst 0, 1) := by decide +kernel
theorem dX4_sort_12 : decode cX4_sort 12 = .ok (.iastore, 1) := by decide +kernel
theorem dX4_sort_13 : decode cX4_sort 13 = .ok (.aload_n 0, 1) := by decide +kernel
theorem dX4_sort_14 : decode cX4_sort 14 = .ok (.getfield 9, 3) := by decide +kernel
theorem dX4_sort_17 : decode cX4_sort 17 = .ok (.getfield 26, 3) := by decide +kernel
theorem dX4_sort_20 : decode cX4_sort 20 = .ok (.iconst 1, 1) := by decide +kernel
theorem dX4_sort_21 : decode cX4_sort 21 = .ok (.isub, 1) := by decide +kernel
theorem dX4_sort_22 : decode cX4_sort 22 = .ok (.istore_n 1, 1) := by decide +kernel
theorem dX4_sort_23 : decode cX4_sort 23 = .ok (.iload_n 1, 1) := by decide +kernel
theorem dX4_sort_24 : decode cX4_sort 24 = .ok (.ifCond .lt 14, 3) := by decide +kernel
theorem dX4_sort_27 : decode cX4_sort 27 = .ok (.aload_n 0, 1) := by decide +kernel
theorem dX4_sort_28 : decode cX4_sort 28 = .ok (.iload_n 1, 1) := by decide +kernel
theorem dX4_sort_29 : decode cX4_sort 29 = .ok (.invokevirtual 46, 3) := by decide +kernel
theorem dX4_sort_32 : decode cX4_sort 32 = .ok (.iinc 1 (-1), 3) := by decide +kernel
theorem dX4_sort_35 : decode cX4_sort 35 = .ok (.goto (-12), 3) := by decide +kernel
theorem dX4_sort_38 : decode cX4_sort 38 = .ok (.iconst 0, 1) := by decide +kernel
theorem dX4_sort_39 : decode cX4_sort 39 = .ok (.istore_n 1, 1) := by decide +kernel
theorem dX4_sort_40 : decode cX4_sort 40 = .ok (.iload_n 1, 1) := by decide +kernel
theorem dX4_sort_41 : decode cX4_sort 41 = .ok (.aload_n 0, 1) := by decide +kernel
theorem dX4_sort_42 : decode cX4_sort 42 = .ok (.getfield 9, 3) := by decide +kernel
theorem dX4_sort_45 : decode cX4_sort 45 = .ok (.getfield 26, 3) := by decide +kernel
theorem dX4_sort_48 : decode cX4_sort 48 = .ok (.if_icmp .gt 21, 3) := by decide +kernel
theorem dX4_sort_51 : decode cX4_sort 51 = .ok (.aload_n 0, 1) := by decide +kernel
theorem dX4_sort_52 : decode cX4_sort 52 = .ok (.getfield 19, 3) := by decide +kernel
theorem dX4_sort_55 : decode cX4_sort 55 = .ok (.aload_n 0, 1) := by decide +kernel
theorem dX4_sort_56 : decode cX4_sort 56 = .ok (.getfield 15, 3) := by decide +kernel
theorem dX4_sort_59 : decode cX4_sort 59 = .ok (.iload_n 1, 1) := by decide +kernel
theorem dX4_sort_60 : decode cX4_sort 60 = .ok (.iaload, 1) := by decide +kernel
theorem dX4_sort_61 : decode cX4_sort 61 = .ok (.iload_n 1, 1) := by decide +kernel
theorem dX4_sort_62 : decode cX4_sort 62 = .ok (.iastore, 1) := by decide +kernel
theorem dX4_sort_63 : decode cX4_sort 63 = .ok (.iinc 1 1, 3) := by decide +kernel
theorem dX4_sort_66 : decode cX4_sort 66 = .ok (.goto (-26), 3) := by decide +kernel
theorem dX4_sort_69 : decode cX4_sort 69 = .ok (.aload_n 0, 1) := by decide +kernel
theorem dX4_sort_70 : decode cX4_sort 70 = .ok (.iconst 1, 1) := by decide +kernel
theorem dX4_sort_71 : decode cX4_sort 71 = .ok (.putfield 22, 3) := by decide +kernel
theorem dX4_sort_74 : decode cX4_sort 74 = .ok (.return_, 1) := by decide +kernel
theorem dX4_placeOfRow_0 : decode cX4_placeOfRow 0 = .ok (.aload_n 0, 1) := by decide +kernel
theorem dX4_placeOfRow_1 : decode cX4_placeOfRow 1 = .ok (.getfield 22, 3) := by decide +kernel
theorem dX4_placeOfRow_4 : decode cX4_placeOfRow 4 = .ok (.ifCond .ne 7, 3) := by decide +kernel
theorem dX4_placeOfRow_7 : decode cX4_placeOfRow 7 = .ok (.aload_n 0, 1) := by decide +kernel
theorem dX4_placeOfRow_8 : decode cX4_placeOfRow 8 = .ok (.invokevirtual 36, 3) := by decide +kernel
theorem dX4_placeOfRow_11 : decode cX4_placeOfRow 11 = .ok (.aload_n 0, 1) := by decide +kernel
theorem dX4_placeOfRow_12 : decode cX4_placeOfRow 12 = .ok (.getfield 19, 3) := by decide +kernel
theorem dX4_placeOfRow_15 : decode cX4_placeOfRow 15 = .ok (.iload_n 1, 1) := by decide +kernel
theorem dX4_placeOfRow_16 : decode cX4_placeOfRow 16 = .ok (.iaload, 1) := by decide +kernel
theorem dX4_placeOfRow_17 : decode cX4_placeOfRow 17 = .ok (.ireturn, 1) := by decide +kernel
theorem dX4_symbolBefore_0 : decode cX4_symbolBefore 0 = .ok (.aload_n 0, 1) := by decide +kernel
theorem dX4_symbolBefore_1 : decode cX4_symbolBefore 1 = .ok (.iload_n 1, 1) := by decide +kernel
theorem dX4_symbolBefore_2 : decode cX4_symbolBefore 2 = .ok (.invokevirtual 39, 3) := by decide +kernel
theorem dX4_symbolBefore_5 : decode cX4_symbolBefore 5 = .ok (.istore_n 2, 1) := by decide +kernel
theorem dX4_symbolBefore_6 : decode cX4_symbolBefore 6 = .ok (.iload_n 2, 1) := by decide +kernel
theorem dX4_symbolBefore_7 : decode cX4_symbolBefore 7 = .ok (.ifCond .ne 7, 3) := by decide +kernel
theorem dX4_symbolBefore_10 : decode cX4_symbolBefore 10 = .ok (.iconst 5, 1) := by decide +kernel
theorem dX4_symbolBefore_11 : decode cX4_symbolBefore 11 = .ok (.goto 14, 3) := by decide +kernel
theorem dX4_symbolBefore_14 : decode cX4_symbolBefore 14 = .ok (.aload_n 0, 1) := by decide +kernel
theorem dX4_symbolBefore_15 : decode cX4_symbolBefore 15 = .ok (.getfield 9, 3) := by decide +kernel
theorem dX4_symbolBefore_18 : decode cX4_symbolBefore 18 = .ok (.getfield 43, 3) := by decide +kernel
theorem dX4_symbolBefore_21 : decode cX4_symbolBefore 21 = .ok (.iload_n 2, 1) := by decide +kernel
theorem dX4_symbolBefore_22 : decode cX4_symbolBefore 22 = .ok (.iconst 1, 1) := by decide +kernel
theorem dX4_symbolBefore_23 : decode cX4_symbolBefore 23 = .ok (.isub, 1) := by decide +kernel
theorem dX4_symbolBefore_24 : decode cX4_symbolBefore 24 = .ok (.iaload, 1) := by decide +kernel
theorem dX4_symbolBefore_25 : decode cX4_symbolBefore 25 = .ok (.ireturn, 1) := by decide +kernel
