theorem dX1_qualityOf_0 : decode cX1_qualityOf 0 = .ok (.iload_n 1, 1) := by decide +kernel
theorem dX1_qualityOf_1 : decode cX1_qualityOf 1 = .ok (.aload_n 0, 1) := by decide +kernel
theorem dX1_qualityOf_2 : decode cX1_qualityOf 2 = .ok (.getfield 28, 3) := by decide +kernel
theorem dX1_qualityOf_5 : decode cX1_qualityOf 5 = .ok (.if_icmp .eq 5, 3) := by decide +kernel
theorem dX1_qualityOf_8 : decode cX1_qualityOf 8 = .ok (.iconst 0, 1) := by decide +kernel
theorem dX1_qualityOf_9 : decode cX1_qualityOf 9 = .ok (.ireturn, 1) := by decide +kernel
theorem dX1_qualityOf_10 : decode cX1_qualityOf 10 = .ok (.aload_n 0, 1) := by decide +kernel
theorem dX1_qualityOf_11 : decode cX1_qualityOf 11 = .ok (.getfield 24, 3) := by decide +kernel
theorem dX1_qualityOf_14 : decode cX1_qualityOf 14 = .ok (.iconst 1, 1) := by decide +kernel
theorem dX1_qualityOf_15 : decode cX1_qualityOf 15 = .ok (.if_icmp .ne 6, 3) := by decide +kernel
theorem dX1_qualityOf_18 : decode cX1_qualityOf 18 = .ok (.bipush 60, 2) := by decide +kernel
theorem dX1_qualityOf_20 : decode cX1_qualityOf 20 = .ok (.ireturn, 1) := by decide +kernel
theorem dX1_qualityOf_21 : decode cX1_qualityOf 21 = .ok (.aload_n 0, 1) := by decide +kernel
theorem dX1_qualityOf_22 : decode cX1_qualityOf 22 = .ok (.getfield 31, 3) := by decide +kernel
theorem dX1_qualityOf_25 : decode cX1_qualityOf 25 = .ok (.ifCond .ne 6, 3) := by decide +kernel
theorem dX1_qualityOf_28 : decode cX1_qualityOf 28 = .ok (.bipush 40, 2) := by decide +kernel
theorem dX1_qualityOf_30 : decode cX1_qualityOf 30 = .ok (.ireturn, 1) := by decide +kernel
theorem dX1_qualityOf_31 : decode cX1_qualityOf 31 = .ok (.aload_n 0, 1) := by decide +kernel
theorem dX1_qualityOf_32 : decode cX1_qualityOf 32 = .ok (.getfield 31, 3) := by decide +kernel
theorem dX1_qualityOf_35 : decode cX1_qualityOf 35 = .ok (.iconst 1, 1) := by decide +kernel
theorem dX1_qualityOf_36 : decode cX1_qualityOf 36 = .ok (.if_icmp .ne 7, 3) := by decide +kernel
theorem dX1_qualityOf_39 : decode cX1_qualityOf 39 = .ok (.iconst 3, 1) := by decide +kernel
theorem dX1_qualityOf_40 : decode cX1_qualityOf 40 = .ok (.goto 4, 3) := by decide +kernel
theorem dX1_qualityOf_43 : decode cX1_qualityOf 43 = .ok (.iconst 0, 1) := by decide +kernel
theorem dX1_qualityOf_44 : decode cX1_qualityOf 44 = .ok (.ireturn, 1) := by decide +kernel
theorem dX3_tryStrand_0 : decode cX3_tryStrand 0 = .ok (.aload_n 1, 1) := by decide +kernel
theorem dX3_tryStrand_1 : decode cX3_tryStrand 1 = .ok (.iload_n 2, 1) := by decide +kernel
theorem dX3_tryStrand_2 : decode cX3_tryStrand 2 = .ok (.aload_n 3, 1) := by decide +kernel
theorem dX3_tryStrand_3 : decode cX3_tryStrand 3 = .ok (.iload 5, 2) := by decide +kernel
theorem dX3_tryStrand_5 : decode cX3_tryStrand 5 = .ok (.invokevirtual 40, 3) := by decide +kernel
theorem dX3_tryStrand_8 : decode cX3_tryStrand 8 = .ok (.istore 6, 2) := by decide +kernel
theorem dX3_tryStrand_10 : decode cX3_tryStrand 10 = .ok (.iload 6, 2) := by decide +kernel
theorem dX3_tryStrand_12 : decode cX3_tryStrand 12 = .ok (.iload 5, 2) := by decide +kernel
theorem dX3_tryStrand_14 : decode cX3_tryStrand 14 = .ok (.if_icmp .gt 15, 3) := by decide +kernel
theorem dX3_tryStrand_17 : decode cX3_tryStrand 17 = .ok (.aload_n 0, 1) := by decide +kernel
theorem dX3_tryStrand_18 : decode cX3_tryStrand 18 = .ok (.getfield 10, 3) := by decide +kernel
theorem dX3_tryStrand_21 : decode cX3_tryStrand 21 = .ok (.iload_n 2, 1) := by decide +kernel
theorem dX3_tryStrand_22 : decode cX3_tryStrand 22 = .ok (.iload 4, 2) := by decide +kernel
theorem dX3_tryStrand_24 : decode cX3_tryStrand 24 = .ok (.iload 6, 2) := by decide +kernel
theorem dX3_tryStrand_26 : decode cX3_tryStrand 26 = .ok (.invokevirtual 44, 3) := by decide +kernel
theorem dX3_tryStrand_29 : decode cX3_tryStrand 29 = .ok (.return_, 1) := by decide +kernel
theorem dX3_findHits_0 : decode cX3_findHits 0 = .ok (.aload_n 0, 1) := by decide +kernel
theorem dX3_findHits_1 : decode cX3_findHits 1 = .ok (.getfield 10, 3) := by decide +kernel
theorem dX3_findHits_4 : decode cX3_findHits 4 = .ok (.invokevirtual 23, 3) := by decide +kernel
theorem dX3_findHits_7 : decode cX3_findHits 7 = .ok (.iconst 0, 1) := by decide +kernel
theorem dX3_findHits_8 : decode cX3_findHits 8 = .ok (.istore 5, 2) := by decide +kernel
theorem dX3_findHits_10 : decode cX3_findHits 10 = .ok (.iload 5, 2) := by decide +kernel
theorem dX3_findHits_12 : decode cX3_findHits 12 = .ok (.aload_n 1, 1) := by decide +kernel
theorem dX3_findHits_13 : decode cX3_findHits 13 = .ok (.getfield 26, 3) := by decide +kernel
theorem dX3_findHits_16 : decode cX3_findHits 16 = .ok (.if_icmp .ge 41, 3) := by decide +kernel
theorem dX3_findHits_19 : decode cX3_findHits 19 = .ok (.aload_n 1, 1) := by decide +kernel
theorem dX3_findHits_20 : decode cX3_findHits 20 = .ok (.iload 5, 2) := by decide +kernel
theorem dX3_findHits_22 : decode cX3_findHits 22 = .ok (.aload_n 2, 1) := by decide +kernel
theorem dX3_findHits_23 : decode cX3_findHits 23 = .ok (.invokevirtual 32, 3) := by decide +kernel
theorem dX3_findHits_26 : decode cX3_findHits 26 = .ok (.ifCond .eq 31, 3) := by decide +kernel
theorem dX3_findHits_29 : decode cX3_findHits 29 = .ok (.aload_n 0, 1) := by decide +kernel
theorem dX3_findHits_30 : decode cX3_findHits 30 = .ok (.aload_n 1, 1) := by decide +kernel
theorem dX3_findHits_31 : decode cX3_findHits 31 = .ok (.iload 5, 2) := by decide +kernel
theorem dX3_findHits_33 : decode cX3_findHits 33 = .ok (.aload_n 2, 1) := by decide +kernel
theorem dX3_findHits_34 : decode cX3_findHits 34 = .ok (.iconst 0, 1) := by decide +kernel
theorem dX3_findHits_35 : decode cX3_findHits 35 = .ok (.iload 4, 2) := by decide +kernel
theorem dX3_findHits_37 : decode cX3_findHits 37 = .ok (.invokevirtual 36, 3) := by decide +kernel
theorem dX3_findHits_40 : decode cX3_findHits 40 = .ok (.aload_n 0, 1) := by decide +kernel
theorem dX3_findHits_41 : decode cX3_findHits 41 = .ok (.aload_n 1, 1) := by decide +kernel
theorem dX3_findHits_42 : decode cX3_findHits 42 = .ok (.iload 5, 2) := by decide +kernel
theorem dX3_findHits_44 : decode cX3_findHits 44 = .ok (.aload_n 3, 1) := by decide +kernel
theorem dX3_findHits_45 : decode cX3_findHits 45 = .ok (.iconst 1, 1) := by decide +kernel
theorem dX3_findHits_46 : decode cX3_findHits 46 = .ok (.iload 4, 2) := by decide +kernel
theorem dX3_findHits_48 : decode cX3_findHits 48 = .ok (.invokevirtual 36, 3) := by decide +kernel
theorem dX3_findHits_51 : decode cX3_findHits 51 = .ok (.iinc 5 1, 3) := by decide +kernel
theorem dX3_findHits_54 : decode cX3_findHits 54 = .ok (.goto (-44), 3) := by decide +kernel
theorem dX3_findHits_57 : decode cX3_findHits 57 = .ok (.return_, 1) := by decide +kernel
theorem dJ0_coder_0 : decode cJ0_coder 0 = .ok (.getstatic 38, 3) := by decide +kernel
theorem dJ0_coder_3 : decode cJ0_coder 3 = .ok (.ifCond .eq 10, 3) := by decide +kernel
theorem dJ0_coder_6 : decode cJ0_coder 6 = .ok (.aload_n 0, 1) := by decide +kernel
theorem dJ0_coder_7 : decode cJ0_coder 7 = .ok (.getfield 15, 3) := by decide +kernel
theorem dJ0_coder_10 : decode cJ0_coder 10 = .ok (.goto 4, 3) := by decide +kernel
theorem dJ0_coder_13 : decode cJ0_coder 13 = .ok (.iconst 1, 1) := by decide +kernel
theorem dJ0_coder_14 : decode cJ0_coder 14 = .ok (.ireturn, 1) := by decide +kernel
theorem dJ0_isLatin1_0 : decode cJ0_isLatin1 0 = .ok (.getstatic 38, 3) := by decide +kernel
theorem dJ0_isLatin1_3 : decode cJ0_isLatin1 3 = .ok (.ifCond .eq 14, 3) := by decide +kernel
theorem dJ0_isLatin1_6 : decode cJ0_isLatin1 6 = .ok (.aload_n 0, 1) := by decide +kernel
theorem dJ0_isLatin1_7 : decode cJ0_isLatin1 7 = .ok (.getfield 15, 3) := by decide +kernel
theorem dJ0_isLatin1_10 : decode cJ0_isLatin1 10 = .ok (.ifCond .ne 7, 3) := by decide +kernel
theorem dJ0_isLatin1_13 : decode cJ0_isLatin1 13 = .ok (.iconst 1, 1) := by decide +kernel
theorem dJ0_isLatin1_14 : decode cJ0_isLatin1 14 = .ok (.goto 4, 3) := by decide +kernel
theorem dJ0_isLatin1_17 : decode cJ0_isLatin1 17 = .ok (.iconst 0, 1) := by decide +kernel
theorem dJ0_isLatin1_18 : decode cJ0_isLatin1 18 = .ok (.ireturn, 1) := by decide +kernel
theorem dJ0_length_0 : decode cJ0_length 0 = .ok (.aload_n 0, 1) := by decide +kernel
theorem dJ0_length_1 : decode cJ0_length 1 = .ok (.getfield 9, 3) := by decide +kernel
theorem dJ0_length_4 : decode cJ0_length 4 = .ok (.arraylength, 1) := by decide +kernel
theorem dJ0_length_5 : decode cJ0_length 5 = .ok (.aload_n 0, 1) := by decide +kernel
theorem dJ0_length_6 : decode cJ0_length 6 = .ok (.invokevirtual 335, 3) := by decide +kernel
theorem dJ0_length_9 : decode cJ0_length 9 = .ok (.ishr, 1) := by decide +kernel
theorem dJ0_length_10 : decode cJ0_length 10 = .ok (.ireturn, 1) := by decide +kernel
theorem dJ3_checkIndex_0 : decode cJ3_checkIndex 0 = .ok (.iload_n 0, 1) := by decide +kernel
theorem dJ3_checkIndex_1 : decode cJ3_checkIndex 1 = .ok (.ifCond .lt 8, 3) := by decide +kernel
theorem dJ3_checkIndex_4 : decode cJ3_checkIndex 4 = .ok (.iload_n 0, 1) := by decide +kernel
theorem dJ3_checkIndex_5 : decode cJ3_checkIndex 5 = .ok (.iload_n 1, 1) := by decide +kernel
theorem dJ3_checkIndex_6 : decode cJ3_checkIndex 6 = .ok (.if_icmp .lt 10, 3) := by decide +kernel
theorem dJ3_checkIndex_9 : decode cJ3_checkIndex 9 = .ok (.aload_n 2, 1) := by decide +kernel
theorem dJ3_checkIndex_10 : decode cJ3_checkIndex 10 = .ok (.iload_n 0, 1) := by decide +kernel
theorem dJ3_checkIndex_11 : decode cJ3_checkIndex 11 = .ok (.iload_n 1, 1) := by decide +kernel
theorem dJ3_checkIndex_12 : decode cJ3_checkIndex 12 = .ok (.invokestatic 95, 3) := by decide +kernel
theorem dJ3_checkIndex_15 : decode cJ3_checkIndex 15 = .ok (.athrow, 1) := by decide +kernel
theorem dJ3_checkIndex_16 : decode cJ3_checkIndex 16 = .ok (.iload_n 0, 1) := by decide +kernel
theorem dJ3_checkIndex_17 : decode cJ3_checkIndex 17 = .ok (.ireturn, 1) := by decide +kernel
theorem dJ0_checkIndex_0 : decode cJ0_checkIndex 0 = .ok (.iload_n 0, 1) := by decide +kernel
theorem dJ0_checkIndex_1 : decode cJ0_checkIndex 1 = .ok (.iload_n 1, 1) := by decide +kernel
theorem dJ0_checkIndex_2 : decode cJ0_checkIndex 2 = .ok (.getstatic 1053, 3) := by decide +kernel
theorem dJ0_checkIndex_5 : decode cJ0_checkIndex 5 = .ok (.invokestatic 1059, 3) := by decide +kernel
theorem dJ0_checkIndex_8 : decode cJ0_checkIndex 8 = .ok (.pop, 1) := by decide +kernel
theorem dJ0_checkIndex_9 : decode cJ0_checkIndex 9 = .ok (.return_, 1) := by decide +kernel
theorem dJ1_charAt_0 : decode cJ1_charAt 0 = .ok (.iload_n 1, 1) := by decide +kernel
theorem dJ1_charAt_1 : decode cJ1_charAt 1 = .ok (.aload_n 0, 1) := by decide +kernel
theorem dJ1_charAt_2 : decode cJ1_charAt 2 = .ok (.arraylength, 1) := by decide +kernel
theorem dJ1_charAt_3 : decode cJ1_charAt 3 = .ok (.invokestatic 9, 3) := by decide +kernel
theorem dJ1_charAt_6 : decode cJ1_charAt 6 = .ok (.aload_n 0, 1) := by decide +kernel
theorem dJ1_charAt_7 : decode cJ1_charAt 7 = .ok (.iload_n 1, 1) := by decide +kernel
theorem dJ1_charAt_8 : decode cJ1_charAt 8 = .ok (.baload, 1) := by decide +kernel
theorem dJ1_charAt_9 : decode cJ1_charAt 9 = .ok (.sipush 255, 3) := by decide +kernel
theorem dJ1_charAt_12 : decode cJ1_charAt 12 = .ok (.iand, 1) := by decide +kernel
theorem dJ1_charAt_13 : decode cJ1_charAt 13 = .ok (.i2c, 1) := by decide +kernel
theorem dJ1_charAt_14 : decode cJ1_charAt 14 = .ok (.ireturn, 1) := by decide +kernel
theorem dJ0_charAt_0 : decode cJ0_charAt 0 = .ok (.aload_n 0, 1) := by decide +kernel
theorem dJ0_charAt_1 : decode cJ0_charAt 1 = .ok (.invokevirtual 492, 3) := by decide +kernel
theorem dJ0_charAt_4 : decode cJ0_charAt 4 = .ok (.ifCond .eq 12, 3) := by decide +kernel
theorem dJ0_charAt_7 : decode cJ0_charAt 7 = .ok (.aload_n 0, 1) := by decide +kernel
theorem dJ0_charAt_8 : decode cJ0_charAt 8 = .ok (.getfield 9, 3) := by decide +kernel
theorem dJ0_charAt_11 : decode cJ0_charAt 11 = .ok (.iload_n 1, 1) := by decide +kernel
theorem dJ0_charAt_12 : decode cJ0_charAt 12 = .ok (.invokestatic 495, 3) := by decide +kernel
theorem dJ0_charAt_15 : decode cJ0_charAt 15 = .ok (.ireturn, 1) := by decide +kernel
theorem dJ0_charAt_16 : decode cJ0_charAt 16 = .ok (.aload_n 0, 1) := by decide +kernel
theorem dJ0_charAt_17 : decode cJ0_charAt 17 = .ok (.getfield 9, 3) := by decide +kernel
theorem dJ0_charAt_20 : decode cJ0_charAt 20 = .ok (.iload_n 1, 1) := by decide +kernel
theorem dJ0_charAt_21 : decode cJ0_charAt 21 = .ok (.invokestatic 498, 3) := by decide +kernel
theorem dJ0_charAt_24 : decode cJ0_charAt 24 = .ok (.ireturn, 1) := by decide +kernel
theorem dX2_empty_0 : decode cX2_empty 0 = .ok (.aload_n 0, 1) := by decide +kernel
theorem dX2_empty_1 : decode cX2_empty 1 = .ok (.iconst 0, 1) := by decide +kernel
theorem dX2_empty_2 : decode cX2_empty 2 = .ok (.putfield 15, 3) := by decide +kernel
theorem dX2_empty_5 : decode cX2_empty 5 = .ok (.return_, 1) := by decide +kernel
theorem dX2_isOver_0 : decode cX2_isOver 0 = .ok (.aload_n 0, 1) := by decide +kernel
theorem dX2_isOver_1 : decode cX2_isOver 1 = .ok (.getfield 15, 3) := by decide +kernel
theorem dX2_isOver_4 : decode cX2_isOver 4 = .ok (.sipush 1500, 3) := by decide +kernel
theorem dX2_isOver_7 : decode cX2_isOver 7 = .ok (.if_icmp .le 7, 3) := by decide +kernel
theorem dX2_isOver_10 : decode cX2_isOver 10 = .ok (.iconst 1, 1) := by decide +kernel
theorem dX2_isOver_11 : decode cX2_isOver 11 = .ok (.goto 4, 3) := by decide +kernel
theorem dX2_isOver_14 : decode cX2_isOver 14 = .ok (.iconst 0, 1) := by decide +kernel
theorem dX2_isOver_15 : decode cX2_isOver 15 = .ok (.ireturn, 1) := by decide +kernel
theorem dX2_put_0 : decode cX2_put 0 = .ok (.aload_n 0, 1) := by decide +kernel
theorem dX2_put_1 : decode cX2_put 1 = .ok (.getfield 15, 3) := by decide +kernel
theorem dX2_put_4 : decode cX2_put 4 = .ok (.sipush 1500, 3) := by decide +kernel
theorem dX2_put_7 : decode cX2_put 7 = .ok (.if_icmp .ge 13, 3) := by decide +kernel
theorem dX2_put_10 : decode cX2_put 10 = .ok (.aload_n 0, 1) := by decide +kernel
theorem dX2_put_11 : decode cX2_put 11 = .ok (.getfield 9, 3) := by decide +kernel
theorem dX2_put_14 : decode cX2_put 14 = .ok (.aload_n 0, 1) := by decide +kernel
theorem dX2_put_15 : decode cX2_put 15 = .ok (.getfield 15, 3) := by decide +kernel
theorem dX2_put_18 : decode cX2_put 18 = .ok (.iload_n 1, 1) := by decide +kernel
theorem dX2_put_19 : decode cX2_put 19 = .ok (.castore, 1) := by decide +kernel
theorem dX2_put_20 : decode cX2_put 20 = .ok (.aload_n 0, 1) := by decide +kernel
theorem dX2_put_21 : decode cX2_put 21 = .ok (.dup, 1) := by decide +kernel
theorem dX2_put_22 : decode cX2_put 22 = .ok (.getfield 15, 3) := by decide +kernel
theorem dX2_put_25 : decode cX2_put 25 = .ok (.iconst 1, 1) := by decide +kernel
theorem dX2_put_26 : decode cX2_put 26 = .ok (.iadd, 1) := by decide +kernel
theorem dX2_put_27 : decode cX2_put 27 = .ok (.putfield 15, 3) := by decide +kernel
theorem dX2_put_30 : decode cX2_put 30 = .ok (.return_, 1) := by decide +kernel
theorem dX2_putText_0 : decode cX2_putText 0 = .ok (.iconst 0, 1) := by decide +kernel
theorem dX2_putText_1 : decode cX2_putText 1 = .ok (.istore_n 2, 1) := by decide +kernel
theorem dX2_putText_2 : decode cX2_putText 2 = .ok (.iload_n 2, 1) := by decide +kernel
theorem dX2_putText_3 : decode cX2_putText 3 = .ok (.aload_n 1, 1) := by decide +kernel
theorem dX2_putText_4 : decode cX2_putText 4 = .ok (.invokevirtual 19, 3) := by decide +kernel
theorem dX2_putText_7 : decode cX2_putText 7 = .ok (.if_icmp .ge 18, 3) := by decide +kernel
theorem dX2_putText_10 : decode cX2_putText 10 = .ok (.aload_n 0, 1) := by decide +kernel
theorem dX2_putText_11 : decode cX2_putText 11 = .ok (.aload_n 1, 1) := by decide +kernel
theorem dX2_putText_12 : decode cX2_putText 12 = .ok (.iload_n 2, 1) := by decide +kernel
theorem dX2_putText_13 : decode cX2_putText 13 = .ok (.invokevirtual 25, 3) := by decide +kernel
theorem dX2_putText_16 : decode cX2_putText 16 = .ok (.invokevirtual 29, 3) := by decide +kernel
theorem dX2_putText_19 : decode cX2_putText 19 = .ok (.iinc 2 1, 3) := by decide +kernel
theorem dX2_putText_22 : decode cX2_putText 22 = .ok (.goto (-20), 3) := by decide +kernel
theorem dX2_putText_25 : decode cX2_putText 25 = .ok (.return_, 1) := by decide +kernel
theorem dX2_putNumber_0 : decode cX2_putNumber 0 = .ok (.iconst 0, 1) := by decide +kernel
theorem dX2_putNumber_1 : decode cX2_putNumber 1 = .ok (.istore_n 2, 1) := by decide +kernel
theorem dX2_putNumber_2 : decode cX2_putNumber 2 = .ok (.ldc 33, 2) := by decide +kernel
theorem dX2_putNumber_4 : decode cX2_putNumber 4 = .ok (.istore_n 3, 1) := by decide +kernel
theorem dX2_putNumber_5 : decode cX2_putNumber 5 = .ok (.iload_n 3, 1) := by decide +kernel
theorem dX2_putNumber_6 : decode cX2_putNumber 6 = .ok (.ifCond .le 53, 3) := by decide +kernel
theorem dX2_putNumber_9 : decode cX2_putNumber 9 = .ok (.iload_n 1, 1) := by decide +kernel
theorem dX2_putNumber_10 : decode cX2_putNumber 10 = .ok (.iload_n 3, 1) := by decide +kernel
theorem dX2_putNumber_11 : decode cX2_putNumber 11 = .ok (.idiv, 1) := by decide +kernel
theorem dX2_putNumber_12 : decode cX2_putNumber 12 = .ok (.bipush 10, 2) := by decide +kernel
theorem dX2_putNumber_14 : decode cX2_putNumber 14 = .ok (.irem, 1) := by decide +kernel
theorem dX2_putNumber_15 : decode cX2_putNumber 15 = .ok (.istore 4, 2) := by decide +kernel
theorem dX2_putNumber_17 : decode cX2_putNumber 17 = .ok (.iload_n 2, 1) := by decide +kernel
theorem dX2_putNumber_18 : decode cX2_putNumber 18 = .ok (.ifCond .ne 13, 3) := by decide +kernel
theorem dX2_putNumber_21 : decode cX2_putNumber 21 = .ok (.iload 4, 2) := by decide +kernel
theorem dX2_putNumber_23 : decode cX2_putNumber 23 = .ok (.ifCond .gt 8, 3) := by decide +kernel
theorem dX2_putNumber_26 : decode cX2_putNumber 26 = .ok (.iload_n 3, 1) := by decide +kernel
theorem dX2_putNumber_27 : decode cX2_putNumber 27 = .ok (.iconst 1, 1) := by decide +kernel
theorem dX2_putNumber_28 : decode cX2_putNumber 28 = .ok (.if_icmp .ne 7, 3) := by decide +kernel
theorem dX2_putNumber_31 : decode cX2_putNumber 31 = .ok (.iconst 1, 1) := by decide +kernel
theorem dX2_putNumber_32 : decode cX2_putNumber 32 = .ok (.goto 4, 3) := by decide +kernel
theorem dX2_putNumber_35 : decode cX2_putNumber 35 = .ok (.iconst 0, 1) := by decide +kernel
theorem dX2_putNumber_36 : decode cX2_putNumber 36 = .ok (.istore_n 2, 1) := by decide +kernel
theorem dX2_putNumber_37 : decode cX2_putNumber 37 = .ok (.iload_n 2, 1) := by decide +kernel
theorem dX2_putNumber_38 : decode cX2_putNumber 38 = .ok (.ifCond .eq 13, 3) := by decide +kernel
theorem dX2_putNumber_41 : decode cX2_putNumber 41 = .ok (.aload_n 0, 1) := by decide +kernel
theorem dX2_putNumber_42 : decode cX2_putNumber 42 = .ok (.bipush 48, 2) := by decide +kernel
theorem dX2_putNumber_44 : decode cX2_putNumber 44 = .ok (.iload 4, 2) := by decide +kernel
theorem dX2_putNumber_46 : decode cX2_putNumber 46 = .ok (.iadd, 1) := by decide +kernel
theorem dX2_putNumber_47 : decode cX2_putNumber 47 = .ok (.i2c, 1) := by decide +kernel
theorem dX2_putNumber_48 : decode cX2_putNumber 48 = .ok (.invokevirtual 29, 3) := by decide +kernel
theorem dX2_putNumber_51 : decode cX2_putNumber 51 = .ok (.iload_n 3, 1) := by decide +kernel
theorem dX2_putNumber_52 : decode cX2_putNumber 52 = .ok (.bipush 10, 2) := by decide +kernel
theorem dX2_putNumber_54 : decode cX2_putNumber 54 = .ok (.idiv, 1) := by decide +kernel
theorem dX2_putNumber_55 : decode cX2_putNumber 55 = .ok (.istore_n 3, 1) := by decide +kernel
theorem dX2_putNumber_56 : decode cX2_putNumber 56 = .ok (.goto (-51), 3) := by decide +kernel
theorem dX2_putNumber_59 : decode cX2_putNumber 59 = .ok (.return_, 1) := by decide +kernel
theorem dX2_putBases_0 : decode cX2_putBases 0 = .ok (.iconst 0, 1) := by decide +kernel
theorem dX2_putBases_1 : decode cX2_putBases 1 = .ok (.istore_n 2, 1) := by decide +kernel
theorem dX2_putBases_2 : decode cX2_putBases 2 = .ok (.iload_n 2, 1) := by decide +kernel
theorem dX2_putBases_3 : decode cX2_putBases 3 = .ok (.aload_n 1, 1) := by decide +kernel
theorem dX2_putBases_4 : decode cX2_putBases 4 = .ok (.getfield 34, 3) := by decide +kernel
theorem dX2_putBases_7 : decode cX2_putBases 7 = .ok (.if_icmp .ge 24, 3) := by decide +kernel
theorem dX2_putBases_10 : decode cX2_putBases 10 = .ok (.aload_n 0, 1) := by decide +kernel
theorem dX2_putBases_11 : decode cX2_putBases 11 = .ok (.ldc 39, 2) := by decide +kernel
theorem dX2_putBases_13 : decode cX2_putBases 13 = .ok (.aload_n 1, 1) := by decide +kernel
theorem dX2_putBases_14 : decode cX2_putBases 14 = .ok (.getfield 41, 3) := by decide +kernel
theorem dX2_putBases_17 : decode cX2_putBases 17 = .ok (.iload_n 2, 1) := by decide +kernel
theorem dX2_putBases_18 : decode cX2_putBases 18 = .ok (.iaload, 1) := by decide +kernel
theorem dX2_putBases_19 : decode cX2_putBases 19 = .ok (.invokevirtual 25, 3) := by decide +kernel
theorem dX2_putBases_22 : decode cX2_putBases 22 = .ok (.invokevirtual 29, 3) := by decide +kernel
theorem dX2_putBases_25 : decode cX2_putBases 25 = .ok (.iinc 2 1, 3) := by decide +kernel
theorem dX2_putBases_28 : decode cX2_putBases 28 = .ok (.goto (-26), 3) := by decide +kernel
theorem dX2_putBases_31 : decode cX2_putBases 31 = .ok (.return_, 1) := by decide +kernel
theorem dX2_putDifferences_0 : decode cX2_putDifferences 0 = .ok (.iconst 0, 1) := by decide +kernel
theorem dX2_putDifferences_1 : decode cX2_putDifferences 1 = .ok (.istore 4, 2) := by decide +kernel
theorem dX2_putDifferences_3 : decode cX2_putDifferences 3 = .ok (.iconst 0, 1) := by decide +kernel
theorem dX2_putDifferences_4 : decode cX2_putDifferences 4 = .ok (.istore 5, 2) := by decide +kernel
theorem dX2_putDifferences_6 : decode cX2_putDifferences 6 = .ok (.iload 5, 2) := by decide +kernel
theorem dX2_putDifferences_8 : decode cX2_putDifferences 8 = .ok (.aload_n 3, 1) := by decide +kernel
theorem dX2_putDifferences_9 : decode cX2_putDifferences 9 = .ok (.getfield 34, 3) := by decide +kernel
theorem dX2_putDifferences_12 : decode cX2_putDifferences 12 = .ok (.if_icmp .ge 58, 3) := by decide +kernel
theorem dX2_putDifferences_15 : decode cX2_putDifferences 15 = .ok (.aload_n 1, 1) := by decide +kernel
theorem dX2_putDifferences_16 : decode cX2_putDifferences 16 = .ok (.getfield 41, 3) := by decide +kernel
theorem dX2_putDifferences_19 : decode cX2_putDifferences 19 = .ok (.iload_n 2, 1) := by decide +kernel
theorem dX2_putDifferences_20 : decode cX2_putDifferences 20 = .ok (.iload 5, 2) := by decide +kernel
theorem dX2_putDifferences_22 : decode cX2_putDifferences 22 = .ok (.iadd, 1) := by decide +kernel
theorem dX2_putDifferences_23 : decode cX2_putDifferences 23 = .ok (.iaload, 1) := by decide +kernel
theorem dX2_putDifferences_24 : decode cX2_putDifferences 24 = .ok (.istore 6, 2) := by decide +kernel
theorem dX2_putDifferences_26 : decode cX2_putDifferences 26 = .ok (.iload 6, 2) := by decide +kernel
theorem dX2_putDifferences_28 : decode cX2_putDifferences 28 = .ok (.aload_n 3, 1) := by decide +kernel
theorem dX2_putDifferences_29 : decode cX2_putDifferences 29 = .ok (.getfield 41, 3) := by decide +kernel
theorem dX2_putDifferences_32 : decode cX2_putDifferences 32 = .ok (.iload 5, 2) := by decide +kernel
theorem dX2_putDifferences_34 : decode cX2_putDifferences 34 = .ok (.iaload, 1) := by decide +kernel
theorem dX2_putDifferences_35 : decode cX2_putDifferences 35 = .ok (.if_icmp .ne 9, 3) := by decide +kernel
theorem dX2_putDifferences_38 : decode cX2_putDifferences 38 = .ok (.iinc 4 1, 3) := by decide +kernel
theorem dX2_putDifferences_41 : decode cX2_putDifferences 41 = .ok (.goto 23, 3) := by decide +kernel
theorem dX2_putDifferences_44 : decode cX2_putDifferences 44 = .ok (.aload_n 0, 1) := by decide +kernel
theorem dX2_putDifferences_45 : decode cX2_putDifferences 45 = .ok (.iload 4, 2) := by decide +kernel
theorem dX2_putDifferences_47 : decode cX2_putDifferences 47 = .ok (.invokevirtual 45, 3) := by decide +kernel
theorem dX2_putDifferences_50 : decode cX2_putDifferences 50 = .ok (.aload_n 0, 1) := by decide +kernel
theorem dX2_putDifferences_51 : decode cX2_putDifferences 51 = .ok (.ldc 39, 2) := by decide +kernel
theorem dX2_putDifferences_53 : decode cX2_putDifferences 53 = .ok (.iload 6, 2) := by decide +kernel
theorem dX2_putDifferences_55 : decode cX2_putDifferences 55 = .ok (.invokevirtual 25, 3) := by decide +kernel
theorem dX2_putDifferences_58 : decode cX2_putDifferences 58 = .ok (.invokevirtual 29, 3) := by decide +kernel
theorem dX2_putDifferences_61 : decode cX2_putDifferences 61 = .ok (.iconst 0, 1) := by decide +kernel
theorem dX2_putDifferences_62 : decode cX2_putDifferences 62 = .ok (.istore 4, 2) := by decide +kernel
theorem dX2_putDifferences_64 : decode cX2_putDifferences 64 = .ok (.iinc 5 1, 3) := by decide +kernel
theorem dX2_putDifferences_67 : decode cX2_putDifferences 67 = .ok (.goto (-61), 3) := by decide +kernel
theorem dX2_putDifferences_70 : decode cX2_putDifferences 70 = .ok (.aload_n 0, 1) := by decide +kernel
theorem dX2_putDifferences_71 : decode cX2_putDifferences 71 = .ok (.iload 4, 2) := by decide +kernel
theorem dX2_putDifferences_73 : decode cX2_putDifferences 73 = .ok (.invokevirtual 45, 3) := by decide +kernel
theorem dX2_putDifferences_76 : decode cX2_putDifferences 76 = .ok (.return_, 1) := by decide +kernel
