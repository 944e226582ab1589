theorem dX1_qualityOf_0 : decode cX1_qualityOf 0 = .ok (.iload_n 1, 1) := by decide +kernel
theorem dX1_qualityOf_1 : decode cX1_qualityOf 1 = .ok (.aload_n 0, 1) := by decide +kernel
theorem dX1_qualityOf_2 : decode cX1_qualityOf 2 = .ok (.getfield 28, 3) := by decide +kernel
theorem dX1_qualityOf_5 : decode cX1_qualityOf 5 = .ok (.if_icmp .eq 5, 3) := by decide +kernel
theorem dX1_qualityOf_8 : decode cX1_qualityOf 8 = .ok (.iconst 0, 1) := by decide +kernel
theorem dX1_qualityOf_9 : decode cX1_qualityOf 9 = .ok (.ireturn, 1) := by decide +kernel
theorem dX1_qualityOf_10 : decode cX1_qualityOf 10 = .ok (.aload_n 0, 1) := by decide +kernel
theorem dX1_qualityOf_11 : decode cX1_qualityOf 11 = .ok (.getfield 24, 3) := by decide +kernel
theorem dX1_qualityOf_14 : decode cX1_qualityOf 14 = .ok (.iconst 1, 1) := by decide +kernel
theorem dX1_qualityOf_15 : decode cX1_qualityOf 15 = .ok (.if_icmp .ne 6, 3) := by decide +kernel
theorem dX1_qualityOf_18 : decode cX1_qualityOf 18 = .ok (.bipush 60, 2) := by decide +kernel
theorem dX1_qualityOf_20 : decode cX1_qualityOf 20 = .ok (.ireturn, 1) := by decide +kernel
theorem dX1_qualityOf_21 : decode cX1_qualityOf 21 = .ok (.aload_n 0, 1) := by decide +kernel
theorem dX1_qualityOf_22 : decode cX1_qualityOf 22 = .ok (.getfield 31, 3) := by decide +kernel
theorem dX1_qualityOf_25 : decode cX1_qualityOf 25 = .ok (.ifCond .ne 6, 3) := by decide +kernel
theorem dX1_qualityOf_28 : decode cX1_qualityOf 28 = .ok (.bipush 40, 2) := by decide +kernel
theorem dX1_qualityOf_30 : decode cX1_qualityOf 30 = .ok (.ireturn, 1) := by decide +kernel
theorem dX1_qualityOf_31 : decode cX1_qualityOf 31 = .ok (.aload_n 0, 1) := by decide +kernel
theorem dX1_qualityOf_32 : decode cX1_qualityOf 32 = .ok (.getfield 31, 3) := by decide +kernel
theorem dX1_qualityOf_35 : decode cX1_qualityOf 35 = .ok (.iconst 1, 1) := by decide +kernel
theorem dX1_qualityOf_36 : decode cX1_qualityOf 36 = .ok (.if_icmp .ne 7, 3) := by decide +kernel
theorem dX1_qualityOf_39 : decode cX1_qualityOf 39 = .ok (.iconst 3, 1) := by decide +kernel
theorem dX1_qualityOf_40 : decode cX1_qualityOf 40 = .ok (.goto 4, 3) := by decide +kernel
theorem dX1_qualityOf_43 : decode cX1_qualityOf 43 = .ok (.iconst 0, 1) := by decide +kernel
theorem dX1_qualityOf_44 : decode cX1_qualityOf 44 = .ok (.ireturn, 1) := by decide +kernel
theorem dX3_tryStrand_0 : decode cX3_tryStrand 0 = .ok (.aload_n 1, 1) := by decide +kernel
theorem dX3_tryStrand_1 : decode cX3_tryStrand 1 = .ok (.iload_n 2, 1) := by decide +kernel
theorem dX3_tryStrand_2 : decode cX3_tryStrand 2 = .ok (.aload_n 3, 1) := by decide +kernel
theorem dX3_tryStrand_3 : decode cX3_tryStrand 3 = .ok (.iload 5, 2) := by decide +kernel
theorem dX3_tryStrand_5 : decode cX3_tryStrand 5 = .ok (.invokevirtual 40, 3) := by decide +kernel
theorem dX3_tryStrand_8 : decode cX3_tryStrand 8 = .ok (.istore 6, 2) := by decide +kernel
theorem dX3_tryStrand_10 : decode cX3_tryStrand 10 = .ok (.iload 6, 2) := by decide +kernel
theorem dX3_tryStrand_12 : decode cX3_tryStrand 12 = .ok (.iload 5, 2) := by decide +kernel
theorem dX3_tryStrand_14 : decode cX3_tryStrand 14 = .ok (.if_icmp .gt 15, 3) := by decide +kernel
theorem dX3_tryStrand_17 : decode cX3_tryStrand 17 = .ok (.aload_n 0, 1) := by decide +kernel
theorem dX3_tryStrand_18 : decode cX3_tryStrand 18 = .ok (.getfield 10, 3) := by decide +kernel
theorem dX3_tryStrand_21 : decode cX3_tryStrand 21 = .ok (.iload_n 2, 1) := by decide +kernel
theorem dX3_tryStrand_22 : decode cX3_tryStrand 22 = .ok (.iload 4, 2) := by decide +kernel
theorem dX3_tryStrand_24 : decode cX3_tryStrand 24 = .ok (.iload 6, 2) := by decide +kernel
theorem dX3_tryStrand_26 : decode cX3_tryStrand 26 = .ok (.invokevirtual 44, 3) := by decide +kernel
theorem dX3_tryStrand_29 : decode cX3_tryStrand 29 = .ok (.return_, 1) := by decide +kernel
theorem dX3_findHits_0 : decode cX3_findHits 0 = .ok (.aload_n 0, 1) := by decide +kernel
theorem dX3_findHits_1 : decode cX3_findHits 1 = .ok (.getfield 10, 3) := by decide +kernel
theorem dX3_findHits_4 : decode cX3_findHits 4 = .ok (.invokevirtual 23, 3) := by decide +kernel
theorem dX3_findHits_7 : decode cX3_findHits 7 = .ok (.iconst 0, 1) := by decide +kernel
theorem dX3_findHits_8 : decode cX3_findHits 8 = .ok (.istore 5, 2) := by decide +kernel
theorem dX3_findHits_10 : decode cX3_findHits 10 = .ok (.iload 5, 2) := by decide +kernel
theorem dX3_findHits_12 : decode cX3_findHits 12 = .ok (.aload_n 1, 1) := by decide +kernel
theorem dX3_findHits_13 : decode cX3_findHits 13 = .ok (.getfield 26, 3) := by decide +kernel
theorem dX3_findHits_16 : decode cX3_findHits 16 = .ok (.if_icmp .ge 41, 3) := by decide +kernel
theorem dX3_findHits_19 : decode cX3_findHits 19 = .ok (.aload_n 1, 1) := by decide +kernel
theorem dX3_findHits_20 : decode cX3_findHits 20 = .ok (.iload 5, 2) := by decide +kernel
theorem dX3_findHits_22 : decode cX3_findHits 22 = .ok (.aload_n 2, 1) := by decide +kernel
theorem dX3_findHits_23 : decode cX3_findHits 23 = .ok (.invokevirtual 32, 3) := by decide +kernel
theorem dX3_findHits_26 : decode cX3_findHits 26 = .ok (.ifCond .eq 31, 3) := by decide +kernel
theorem dX3_findHits_29 : decode cX3_findHits 29 = .ok (.aload_n 0, 1) := by decide +kernel
theorem dX3_findHits_30 : decode cX3_findHits 30 = .ok (.aload_n 1, 1) := by decide +kernel
theorem dX3_findHits_31 : decode cX3_findHits 31 = .ok (.iload 5, 2) := by decide +kernel
theorem dX3_findHits_33 : decode cX3_findHits 33 = .ok (.aload_n 2, 1) := by decide +kernel
theorem dX3_findHits_34 : decode cX3_findHits 34 = .ok (.iconst 0, 1) := by decide +kernel
theorem dX3_findHits_35 : decode cX3_findHits 35 = .ok (.iload 4, 2) := by decide +kernel
theorem dX3_findHits_37 : decode cX3_findHits 37 = .ok (.invokevirtual 36, 3) := by decide +kernel
theorem dX3_findHits_40 : decode cX3_findHits 40 = .ok (.aload_n 0, 1) := by decide +kernel
theorem dX3_findHits_41 : decode cX3_findHits 41 = .ok (.aload_n 1, 1) := by decide +kernel
theorem dX3_findHits_42 : decode cX3_findHits 42 = .ok (.iload 5, 2) := by decide +kernel
theorem dX3_findHits_44 : decode cX3_findHits 44 = .ok (.aload_n 3, 1) := by decide +kernel
theorem dX3_findHits_45 : decode cX3_findHits 45 = .ok (.iconst 1, 1) := by decide +kernel
theorem dX3_findHits_46 : decode cX3_findHits 46 = .ok (.iload 4, 2) := by decide +kernel
theorem dX3_findHits_48 : decode cX3_findHits 48 = .ok (.invokevirtual 36, 3) := by decide +kernel
theorem dX3_findHits_51 : decode cX3_findHits 51 = .ok (.iinc 5 1, 3) := by decide +kernel
theorem dX3_findHits_54 : decode cX3_findHits 54 = .ok (.goto (-44), 3) := by decide +kernel
theorem dX3_findHits_57 : decode cX3_findHits 57 = .ok (.return_, 1) := by decide +kernel
