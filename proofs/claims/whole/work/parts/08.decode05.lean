theorem dX6_putNothing_0 : decode cX6_putNothing 0 = .ok (.aload_n 0, 1) := by decide +kernel
theorem dX6_putNothing_1 : decode cX6_putNothing 1 = .ok (.bipush 114, 2) := by decide +kernel
theorem dX6_putNothing_3 : decode cX6_putNothing 3 = .ok (.invokevirtual 85, 3) := by decide +kernel
theorem dX6_putNothing_6 : decode cX6_putNothing 6 = .ok (.aload_n 0, 1) := by decide +kernel
theorem dX6_putNothing_7 : decode cX6_putNothing 7 = .ok (.aload_n 0, 1) := by decide +kernel
theorem dX6_putNothing_8 : decode cX6_putNothing 8 = .ok (.getfield 102, 3) := by decide +kernel
theorem dX6_putNothing_11 : decode cX6_putNothing 11 = .ok (.iconst 1, 1) := by decide +kernel
theorem dX6_putNothing_12 : decode cX6_putNothing 12 = .ok (.iadd, 1) := by decide +kernel
theorem dX6_putNothing_13 : decode cX6_putNothing 13 = .ok (.invokevirtual 96, 3) := by decide +kernel
theorem dX6_putNothing_16 : decode cX6_putNothing 16 = .ok (.aload_n 0, 1) := by decide +kernel
theorem dX6_putNothing_17 : decode cX6_putNothing 17 = .ok (.invokevirtual 89, 3) := by decide +kernel
theorem dX6_putNothing_20 : decode cX6_putNothing 20 = .ok (.aload_n 0, 1) := by decide +kernel
theorem dX6_putNothing_21 : decode cX6_putNothing 21 = .ok (.bipush 52, 2) := by decide +kernel
theorem dX6_putNothing_23 : decode cX6_putNothing 23 = .ok (.invokevirtual 85, 3) := by decide +kernel
theorem dX6_putNothing_26 : decode cX6_putNothing 26 = .ok (.aload_n 0, 1) := by decide +kernel
theorem dX6_putNothing_27 : decode cX6_putNothing 27 = .ok (.invokevirtual 89, 3) := by decide +kernel
theorem dX6_putNothing_30 : decode cX6_putNothing 30 = .ok (.aload_n 0, 1) := by decide +kernel
theorem dX6_putNothing_31 : decode cX6_putNothing 31 = .ok (.bipush 42, 2) := by decide +kernel
theorem dX6_putNothing_33 : decode cX6_putNothing 33 = .ok (.invokevirtual 85, 3) := by decide +kernel
theorem dX6_putNothing_36 : decode cX6_putNothing 36 = .ok (.aload_n 0, 1) := by decide +kernel
theorem dX6_putNothing_37 : decode cX6_putNothing 37 = .ok (.invokevirtual 89, 3) := by decide +kernel
theorem dX6_putNothing_40 : decode cX6_putNothing 40 = .ok (.aload_n 0, 1) := by decide +kernel
theorem dX6_putNothing_41 : decode cX6_putNothing 41 = .ok (.bipush 48, 2) := by decide +kernel
theorem dX6_putNothing_43 : decode cX6_putNothing 43 = .ok (.invokevirtual 85, 3) := by decide +kernel
theorem dX6_putNothing_46 : decode cX6_putNothing 46 = .ok (.aload_n 0, 1) := by decide +kernel
theorem dX6_putNothing_47 : decode cX6_putNothing 47 = .ok (.invokevirtual 89, 3) := by decide +kernel
theorem dX6_putNothing_50 : decode cX6_putNothing 50 = .ok (.aload_n 0, 1) := by decide +kernel
theorem dX6_putNothing_51 : decode cX6_putNothing 51 = .ok (.bipush 48, 2) := by decide +kernel
theorem dX6_putNothing_53 : decode cX6_putNothing 53 = .ok (.invokevirtual 85, 3) := by decide +kernel
theorem dX6_putNothing_56 : decode cX6_putNothing 56 = .ok (.aload_n 0, 1) := by decide +kernel
theorem dX6_putNothing_57 : decode cX6_putNothing 57 = .ok (.invokevirtual 89, 3) := by decide +kernel
theorem dX6_putNothing_60 : decode cX6_putNothing 60 = .ok (.aload_n 0, 1) := by decide +kernel
theorem dX6_putNothing_61 : decode cX6_putNothing 61 = .ok (.bipush 42, 2) := by decide +kernel
theorem dX6_putNothing_63 : decode cX6_putNothing 63 = .ok (.invokevirtual 85, 3) := by decide +kernel
theorem dX6_putNothing_66 : decode cX6_putNothing 66 = .ok (.aload_n 0, 1) := by decide +kernel
theorem dX6_putNothing_67 : decode cX6_putNothing 67 = .ok (.invokevirtual 108, 3) := by decide +kernel
theorem dX6_putNothing_70 : decode cX6_putNothing 70 = .ok (.aload_n 0, 1) := by decide +kernel
theorem dX6_putNothing_71 : decode cX6_putNothing 71 = .ok (.iconst 0, 1) := by decide +kernel
theorem dX6_putNothing_72 : decode cX6_putNothing 72 = .ok (.invokevirtual 111, 3) := by decide +kernel
theorem dX6_putNothing_75 : decode cX6_putNothing 75 = .ok (.aload_n 0, 1) := by decide +kernel
theorem dX6_putNothing_76 : decode cX6_putNothing 76 = .ok (.invokevirtual 89, 3) := by decide +kernel
theorem dX6_putNothing_79 : decode cX6_putNothing 79 = .ok (.aload_n 0, 1) := by decide +kernel
theorem dX6_putNothing_80 : decode cX6_putNothing 80 = .ok (.bipush 42, 2) := by decide +kernel
theorem dX6_putNothing_82 : decode cX6_putNothing 82 = .ok (.invokevirtual 85, 3) := by decide +kernel
theorem dX6_putNothing_85 : decode cX6_putNothing 85 = .ok (.aload_n 0, 1) := by decide +kernel
theorem dX6_putNothing_86 : decode cX6_putNothing 86 = .ok (.bipush 10, 2) := by decide +kernel
theorem dX6_putNothing_88 : decode cX6_putNothing 88 = .ok (.invokevirtual 85, 3) := by decide +kernel
theorem dX6_putNothing_91 : decode cX6_putNothing 91 = .ok (.return_, 1) := by decide +kernel
theorem dX6_keep_0 : decode cX6_keep 0 = .ok (.aload_n 0, 1) := by decide +kernel
theorem dX6_keep_1 : decode cX6_keep 1 = .ok (.aload_n 0, 1) := by decide +kernel
theorem dX6_keep_2 : decode cX6_keep 2 = .ok (.getfield 73, 3) := by decide +kernel
theorem dX6_keep_5 : decode cX6_keep 5 = .ok (.putfield 117, 3) := by decide +kernel
theorem dX6_keep_8 : decode cX6_keep 8 = .ok (.aload_n 0, 1) := by decide +kernel
theorem dX6_keep_9 : decode cX6_keep 9 = .ok (.aload_n 0, 1) := by decide +kernel
theorem dX6_keep_10 : decode cX6_keep 10 = .ok (.getfield 76, 3) := by decide +kernel
theorem dX6_keep_13 : decode cX6_keep 13 = .ok (.putfield 25, 3) := by decide +kernel
theorem dX6_keep_16 : decode cX6_keep 16 = .ok (.iconst 0, 1) := by decide +kernel
theorem dX6_keep_17 : decode cX6_keep 17 = .ok (.istore_n 1, 1) := by decide +kernel
theorem dX6_keep_18 : decode cX6_keep 18 = .ok (.iload_n 1, 1) := by decide +kernel
theorem dX6_keep_19 : decode cX6_keep 19 = .ok (.aload_n 0, 1) := by decide +kernel
theorem dX6_keep_20 : decode cX6_keep 20 = .ok (.getfield 73, 3) := by decide +kernel
theorem dX6_keep_23 : decode cX6_keep 23 = .ok (.if_icmp .ge 45, 3) := by decide +kernel
theorem dX6_keep_26 : decode cX6_keep 26 = .ok (.aload_n 0, 1) := by decide +kernel
theorem dX6_keep_27 : decode cX6_keep 27 = .ok (.getfield 16, 3) := by decide +kernel
theorem dX6_keep_30 : decode cX6_keep 30 = .ok (.iload_n 1, 1) := by decide +kernel
theorem dX6_keep_31 : decode cX6_keep 31 = .ok (.aload_n 0, 1) := by decide +kernel
theorem dX6_keep_32 : decode cX6_keep 32 = .ok (.getfield 29, 3) := by decide +kernel
theorem dX6_keep_35 : decode cX6_keep 35 = .ok (.iload_n 1, 1) := by decide +kernel
theorem dX6_keep_36 : decode cX6_keep 36 = .ok (.iaload, 1) := by decide +kernel
theorem dX6_keep_37 : decode cX6_keep 37 = .ok (.iastore, 1) := by decide +kernel
theorem dX6_keep_38 : decode cX6_keep 38 = .ok (.aload_n 0, 1) := by decide +kernel
theorem dX6_keep_39 : decode cX6_keep 39 = .ok (.getfield 19, 3) := by decide +kernel
theorem dX6_keep_42 : decode cX6_keep 42 = .ok (.iload_n 1, 1) := by decide +kernel
theorem dX6_keep_43 : decode cX6_keep 43 = .ok (.aload_n 0, 1) := by decide +kernel
theorem dX6_keep_44 : decode cX6_keep 44 = .ok (.getfield 32, 3) := by decide +kernel
theorem dX6_keep_47 : decode cX6_keep 47 = .ok (.iload_n 1, 1) := by decide +kernel
theorem dX6_keep_48 : decode cX6_keep 48 = .ok (.iaload, 1) := by decide +kernel
theorem dX6_keep_49 : decode cX6_keep 49 = .ok (.iastore, 1) := by decide +kernel
theorem dX6_keep_50 : decode cX6_keep 50 = .ok (.aload_n 0, 1) := by decide +kernel
theorem dX6_keep_51 : decode cX6_keep 51 = .ok (.getfield 22, 3) := by decide +kernel
theorem dX6_keep_54 : decode cX6_keep 54 = .ok (.iload_n 1, 1) := by decide +kernel
theorem dX6_keep_55 : decode cX6_keep 55 = .ok (.aload_n 0, 1) := by decide +kernel
theorem dX6_keep_56 : decode cX6_keep 56 = .ok (.getfield 35, 3) := by decide +kernel
theorem dX6_keep_59 : decode cX6_keep 59 = .ok (.iload_n 1, 1) := by decide +kernel
theorem dX6_keep_60 : decode cX6_keep 60 = .ok (.iaload, 1) := by decide +kernel
theorem dX6_keep_61 : decode cX6_keep 61 = .ok (.iastore, 1) := by decide +kernel
theorem dX6_keep_62 : decode cX6_keep 62 = .ok (.iinc 1 1, 3) := by decide +kernel
theorem dX6_keep_65 : decode cX6_keep 65 = .ok (.goto (-47), 3) := by decide +kernel
theorem dX6_keep_68 : decode cX6_keep 68 = .ok (.aload_n 0, 1) := by decide +kernel
theorem dX6_keep_69 : decode cX6_keep 69 = .ok (.aload_n 0, 1) := by decide +kernel
theorem dX6_keep_70 : decode cX6_keep 70 = .ok (.getfield 82, 3) := by decide +kernel
theorem dX6_keep_73 : decode cX6_keep 73 = .ok (.putfield 120, 3) := by decide +kernel
theorem dX6_keep_76 : decode cX6_keep 76 = .ok (.iconst 0, 1) := by decide +kernel
theorem dX6_keep_77 : decode cX6_keep 77 = .ok (.istore_n 1, 1) := by decide +kernel
theorem dX6_keep_78 : decode cX6_keep 78 = .ok (.iload_n 1, 1) := by decide +kernel
theorem dX6_keep_79 : decode cX6_keep 79 = .ok (.aload_n 0, 1) := by decide +kernel
theorem dX6_keep_80 : decode cX6_keep 80 = .ok (.getfield 82, 3) := by decide +kernel
theorem dX6_keep_83 : decode cX6_keep 83 = .ok (.if_icmp .ge 21, 3) := by decide +kernel
theorem dX6_keep_86 : decode cX6_keep 86 = .ok (.aload_n 0, 1) := by decide +kernel
theorem dX6_keep_87 : decode cX6_keep 87 = .ok (.getfield 38, 3) := by decide +kernel
theorem dX6_keep_90 : decode cX6_keep 90 = .ok (.iload_n 1, 1) := by decide +kernel
theorem dX6_keep_91 : decode cX6_keep 91 = .ok (.aload_n 0, 1) := by decide +kernel
theorem dX6_keep_92 : decode cX6_keep 92 = .ok (.getfield 42, 3) := by decide +kernel
theorem dX6_keep_95 : decode cX6_keep 95 = .ok (.iload_n 1, 1) := by decide +kernel
theorem dX6_keep_96 : decode cX6_keep 96 = .ok (.caload, 1) := by decide +kernel
theorem dX6_keep_97 : decode cX6_keep 97 = .ok (.castore, 1) := by decide +kernel
theorem dX6_keep_98 : decode cX6_keep 98 = .ok (.iinc 1 1, 3) := by decide +kernel
theorem dX6_keep_101 : decode cX6_keep 101 = .ok (.goto (-23), 3) := by decide +kernel
theorem dX6_keep_104 : decode cX6_keep 104 = .ok (.aload_n 0, 1) := by decide +kernel
theorem dX6_keep_105 : decode cX6_keep 105 = .ok (.dup, 1) := by decide +kernel
theorem dX6_keep_106 : decode cX6_keep 106 = .ok (.getfield 102, 3) := by decide +kernel
theorem dX6_keep_109 : decode cX6_keep 109 = .ok (.iconst 1, 1) := by decide +kernel
theorem dX6_keep_110 : decode cX6_keep 110 = .ok (.iadd, 1) := by decide +kernel
theorem dX6_keep_111 : decode cX6_keep 111 = .ok (.putfield 102, 3) := by decide +kernel
theorem dX6_keep_114 : decode cX6_keep 114 = .ok (.return_, 1) := by decide +kernel
theorem dX6_map_0 : decode cX6_map 0 = .ok (.iload_n 1, 1) := by decide +kernel
theorem dX6_map_1 : decode cX6_map 1 = .ok (.ifCond .lt 8, 3) := by decide +kernel
theorem dX6_map_4 : decode cX6_map 4 = .ok (.iload_n 1, 1) := by decide +kernel
theorem dX6_map_5 : decode cX6_map 5 = .ok (.iconst 4, 1) := by decide +kernel
theorem dX6_map_6 : decode cX6_map 6 = .ok (.if_icmp .le 6, 3) := by decide +kernel
theorem dX6_map_9 : decode cX6_map 9 = .ok (.bipush (-2), 2) := by decide +kernel
theorem dX6_map_11 : decode cX6_map 11 = .ok (.ireturn, 1) := by decide +kernel
theorem dX6_map_12 : decode cX6_map 12 = .ok (.aload_n 0, 1) := by decide +kernel
theorem dX6_map_13 : decode cX6_map 13 = .ok (.getfield 48, 3) := by decide +kernel
theorem dX6_map_16 : decode cX6_map 16 = .ok (.ifCond .ne 6, 3) := by decide +kernel
theorem dX6_map_19 : decode cX6_map 19 = .ok (.bipush (-3), 2) := by decide +kernel
theorem dX6_map_21 : decode cX6_map 21 = .ok (.ireturn, 1) := by decide +kernel
theorem dX6_map_22 : decode cX6_map 22 = .ok (.aload_n 0, 1) := by decide +kernel
theorem dX6_map_23 : decode cX6_map 23 = .ok (.iload_n 1, 1) := by decide +kernel
theorem dX6_map_24 : decode cX6_map 24 = .ok (.invokevirtual 123, 3) := by decide +kernel
theorem dX6_map_27 : decode cX6_map 27 = .ok (.aload_n 0, 1) := by decide +kernel
theorem dX6_map_28 : decode cX6_map 28 = .ok (.iconst 0, 1) := by decide +kernel
theorem dX6_map_29 : decode cX6_map 29 = .ok (.putfield 82, 3) := by decide +kernel
theorem dX6_map_32 : decode cX6_map 32 = .ok (.aload_n 0, 1) := by decide +kernel
theorem dX6_map_33 : decode cX6_map 33 = .ok (.invokevirtual 126, 3) := by decide +kernel
theorem dX6_map_36 : decode cX6_map 36 = .ok (.iconst 0, 1) := by decide +kernel
theorem dX6_map_37 : decode cX6_map 37 = .ok (.istore_n 2, 1) := by decide +kernel
theorem dX6_map_38 : decode cX6_map 38 = .ok (.iload_n 2, 1) := by decide +kernel
theorem dX6_map_39 : decode cX6_map 39 = .ok (.aload_n 0, 1) := by decide +kernel
theorem dX6_map_40 : decode cX6_map 40 = .ok (.getfield 73, 3) := by decide +kernel
theorem dX6_map_43 : decode cX6_map 43 = .ok (.if_icmp .ge 14, 3) := by decide +kernel
theorem dX6_map_46 : decode cX6_map 46 = .ok (.aload_n 0, 1) := by decide +kernel
theorem dX6_map_47 : decode cX6_map 47 = .ok (.iload_n 2, 1) := by decide +kernel
theorem dX6_map_48 : decode cX6_map 48 = .ok (.invokevirtual 129, 3) := by decide +kernel
theorem dX6_map_51 : decode cX6_map 51 = .ok (.iinc 2 1, 3) := by decide +kernel
theorem dX6_map_54 : decode cX6_map 54 = .ok (.goto (-16), 3) := by decide +kernel
theorem dX6_map_57 : decode cX6_map 57 = .ok (.aload_n 0, 1) := by decide +kernel
theorem dX6_map_58 : decode cX6_map 58 = .ok (.getfield 73, 3) := by decide +kernel
theorem dX6_map_61 : decode cX6_map 61 = .ok (.ifCond .ne 7, 3) := by decide +kernel
theorem dX6_map_64 : decode cX6_map 64 = .ok (.aload_n 0, 1) := by decide +kernel
theorem dX6_map_65 : decode cX6_map 65 = .ok (.invokevirtual 132, 3) := by decide +kernel
theorem dX6_map_68 : decode cX6_map 68 = .ok (.aload_n 0, 1) := by decide +kernel
theorem dX6_map_69 : decode cX6_map 69 = .ok (.getfield 82, 3) := by decide +kernel
theorem dX6_map_72 : decode cX6_map 72 = .ok (.sipush 1500, 3) := by decide +kernel
theorem dX6_map_75 : decode cX6_map 75 = .ok (.if_icmp .le 6, 3) := by decide +kernel
theorem dX6_map_78 : decode cX6_map 78 = .ok (.bipush (-4), 2) := by decide +kernel
theorem dX6_map_80 : decode cX6_map 80 = .ok (.ireturn, 1) := by decide +kernel
theorem dX6_map_81 : decode cX6_map 81 = .ok (.aload_n 0, 1) := by decide +kernel
theorem dX6_map_82 : decode cX6_map 82 = .ok (.invokevirtual 135, 3) := by decide +kernel
theorem dX6_map_85 : decode cX6_map 85 = .ok (.aload_n 0, 1) := by decide +kernel
theorem dX6_map_86 : decode cX6_map 86 = .ok (.getfield 117, 3) := by decide +kernel
theorem dX6_map_89 : decode cX6_map 89 = .ok (.ireturn, 1) := by decide +kernel
theorem dX1_empty_0 : decode cX1_empty 0 = .ok (.aload_n 0, 1) := by decide +kernel
theorem dX1_empty_1 : decode cX1_empty 1 = .ok (.iconst 0, 1) := by decide +kernel
theorem dX1_empty_2 : decode cX1_empty 2 = .ok (.putfield 24, 3) := by decide +kernel
theorem dX1_empty_5 : decode cX1_empty 5 = .ok (.aload_n 0, 1) := by decide +kernel
theorem dX1_empty_6 : decode cX1_empty 6 = .ok (.iconst (-1), 1) := by decide +kernel
theorem dX1_empty_7 : decode cX1_empty 7 = .ok (.putfield 28, 3) := by decide +kernel
theorem dX1_empty_10 : decode cX1_empty 10 = .ok (.aload_n 0, 1) := by decide +kernel
theorem dX1_empty_11 : decode cX1_empty 11 = .ok (.iconst 0, 1) := by decide +kernel
theorem dX1_empty_12 : decode cX1_empty 12 = .ok (.putfield 31, 3) := by decide +kernel
theorem dX1_empty_15 : decode cX1_empty 15 = .ok (.return_, 1) := by decide +kernel
theorem dX1_append_0 : decode cX1_append 0 = .ok (.aload_n 0, 1) := by decide +kernel
theorem dX1_append_1 : decode cX1_append 1 = .ok (.getfield 24, 3) := by decide +kernel
theorem dX1_append_4 : decode cX1_append 4 = .ok (.sipush 192, 3) := by decide +kernel
theorem dX1_append_7 : decode cX1_append 7 = .ok (.if_icmp .lt 4, 3) := by decide +kernel
theorem dX1_append_10 : decode cX1_append 10 = .ok (.return_, 1) := by decide +kernel
theorem dX1_append_11 : decode cX1_append 11 = .ok (.aload_n 0, 1) := by decide +kernel
theorem dX1_append_12 : decode cX1_append 12 = .ok (.getfield 9, 3) := by decide +kernel
theorem dX1_append_15 : decode cX1_append 15 = .ok (.aload_n 0, 1) := by decide +kernel
theorem dX1_append_16 : decode cX1_append 16 = .ok (.getfield 24, 3) := by decide +kernel
theorem dX1_append_19 : decode cX1_append 19 = .ok (.iload_n 1, 1) := by decide +kernel
theorem dX1_append_20 : decode cX1_append 20 = .ok (.iastore, 1) := by decide +kernel
theorem dX1_append_21 : decode cX1_append 21 = .ok (.aload_n 0, 1) := by decide +kernel
theorem dX1_append_22 : decode cX1_append 22 = .ok (.getfield 15, 3) := by decide +kernel
theorem dX1_append_25 : decode cX1_append 25 = .ok (.aload_n 0, 1) := by decide +kernel
theorem dX1_append_26 : decode cX1_append 26 = .ok (.getfield 24, 3) := by decide +kernel
theorem dX1_append_29 : decode cX1_append 29 = .ok (.iload_n 2, 1) := by decide +kernel
theorem dX1_append_30 : decode cX1_append 30 = .ok (.iastore, 1) := by decide +kernel
theorem dX1_append_31 : decode cX1_append 31 = .ok (.aload_n 0, 1) := by decide +kernel
theorem dX1_append_32 : decode cX1_append 32 = .ok (.getfield 18, 3) := by decide +kernel
theorem dX1_append_35 : decode cX1_append 35 = .ok (.aload_n 0, 1) := by decide +kernel
theorem dX1_append_36 : decode cX1_append 36 = .ok (.getfield 24, 3) := by decide +kernel
theorem dX1_append_39 : decode cX1_append 39 = .ok (.iload_n 3, 1) := by decide +kernel
theorem dX1_append_40 : decode cX1_append 40 = .ok (.iastore, 1) := by decide +kernel
theorem dX1_append_41 : decode cX1_append 41 = .ok (.aload_n 0, 1) := by decide +kernel
theorem dX1_append_42 : decode cX1_append 42 = .ok (.getfield 24, 3) := by decide +kernel
theorem dX1_append_45 : decode cX1_append 45 = .ok (.ifCond .eq 16, 3) := by decide +kernel
theorem dX1_append_48 : decode cX1_append 48 = .ok (.iload_n 3, 1) := by decide +kernel
theorem dX1_append_49 : decode cX1_append 49 = .ok (.aload_n 0, 1) := by decide +kernel
theorem dX1_append_50 : decode cX1_append 50 = .ok (.getfield 18, 3) := by decide +kernel
theorem dX1_append_53 : decode cX1_append 53 = .ok (.aload_n 0, 1) := by decide +kernel
theorem dX1_append_54 : decode cX1_append 54 = .ok (.getfield 28, 3) := by decide +kernel
theorem dX1_append_57 : decode cX1_append 57 = .ok (.iaload, 1) := by decide +kernel
theorem dX1_append_58 : decode cX1_append 58 = .ok (.if_icmp .ge 19, 3) := by decide +kernel
theorem dX1_append_61 : decode cX1_append 61 = .ok (.aload_n 0, 1) := by decide +kernel
theorem dX1_append_62 : decode cX1_append 62 = .ok (.aload_n 0, 1) := by decide +kernel
theorem dX1_append_63 : decode cX1_append 63 = .ok (.getfield 24, 3) := by decide +kernel
theorem dX1_append_66 : decode cX1_append 66 = .ok (.putfield 28, 3) := by decide +kernel
theorem dX1_append_69 : decode cX1_append 69 = .ok (.aload_n 0, 1) := by decide +kernel
theorem dX1_append_70 : decode cX1_append 70 = .ok (.iconst 0, 1) := by decide +kernel
theorem dX1_append_71 : decode cX1_append 71 = .ok (.putfield 31, 3) := by decide +kernel
theorem dX1_append_74 : decode cX1_append 74 = .ok (.goto 26, 3) := by decide +kernel
theorem dX1_append_77 : decode cX1_append 77 = .ok (.iload_n 3, 1) := by decide +kernel
theorem dX1_append_78 : decode cX1_append 78 = .ok (.aload_n 0, 1) := by decide +kernel
theorem dX1_append_79 : decode cX1_append 79 = .ok (.getfield 18, 3) := by decide +kernel
theorem dX1_append_82 : decode cX1_append 82 = .ok (.aload_n 0, 1) := by decide +kernel
theorem dX1_append_83 : decode cX1_append 83 = .ok (.getfield 28, 3) := by decide +kernel
theorem dX1_append_86 : decode cX1_append 86 = .ok (.iaload, 1) := by decide +kernel
theorem dX1_append_87 : decode cX1_append 87 = .ok (.if_icmp .ne 13, 3) := by decide +kernel
theorem dX1_append_90 : decode cX1_append 90 = .ok (.aload_n 0, 1) := by decide +kernel
theorem dX1_append_91 : decode cX1_append 91 = .ok (.dup, 1) := by decide +kernel
theorem dX1_append_92 : decode cX1_append 92 = .ok (.getfield 31, 3) := by decide +kernel
theorem dX1_append_95 : decode cX1_append 95 = .ok (.iconst 1, 1) := by decide +kernel
theorem dX1_append_96 : decode cX1_append 96 = .ok (.iadd, 1) := by decide +kernel
theorem dX1_append_97 : decode cX1_append 97 = .ok (.putfield 31, 3) := by decide +kernel
theorem dX1_append_100 : decode cX1_append 100 = .ok (.aload_n 0, 1) := by decide +kernel
theorem dX1_append_101 : decode cX1_append 101 = .ok (.dup, 1) := by decide +kernel
theorem dX1_append_102 : decode cX1_append 102 = .ok (.getfield 24, 3) := by decide +kernel
theorem dX1_append_105 : decode cX1_append 105 = .ok (.iconst 1, 1) := by decide +kernel
theorem dX1_append_106 : decode cX1_append 106 = .ok (.iadd, 1) := by decide +kernel
theorem dX1_append_107 : decode cX1_append 107 = .ok (.putfield 24, 3) := by decide +kernel
theorem dX1_append_110 : decode cX1_append 110 = .ok (.return_, 1) := by decide +kernel
theorem dX1_flagOf_0 : decode cX1_flagOf 0 = .ok (.aload_n 0, 1) := by decide +kernel
theorem dX1_flagOf_1 : decode cX1_flagOf 1 = .ok (.getfield 15, 3) := by decide +kernel
theorem dX1_flagOf_4 : decode cX1_flagOf 4 = .ok (.iload_n 1, 1) := by decide +kernel
theorem dX1_flagOf_5 : decode cX1_flagOf 5 = .ok (.iaload, 1) := by decide +kernel
theorem dX1_flagOf_6 : decode cX1_flagOf 6 = .ok (.iconst 1, 1) := by decide +kernel
theorem dX1_flagOf_7 : decode cX1_flagOf 7 = .ok (.if_icmp .ne 8, 3) := by decide +kernel
theorem dX1_flagOf_10 : decode cX1_flagOf 10 = .ok (.bipush 16, 2) := by decide +kernel
theorem dX1_flagOf_12 : decode cX1_flagOf 12 = .ok (.goto 4, 3) := by decide +kernel
theorem dX1_flagOf_15 : decode cX1_flagOf 15 = .ok (.iconst 0, 1) := by decide +kernel
theorem dX1_flagOf_16 : decode cX1_flagOf 16 = .ok (.iload_n 1, 1) := by decide +kernel
theorem dX1_flagOf_17 : decode cX1_flagOf 17 = .ok (.aload_n 0, 1) := by decide +kernel
theorem dX1_flagOf_18 : decode cX1_flagOf 18 = .ok (.getfield 28, 3) := by decide +kernel
theorem dX1_flagOf_21 : decode cX1_flagOf 21 = .ok (.if_icmp .ne 7, 3) := by decide +kernel
theorem dX1_flagOf_24 : decode cX1_flagOf 24 = .ok (.iconst 0, 1) := by decide +kernel
theorem dX1_flagOf_25 : decode cX1_flagOf 25 = .ok (.goto 6, 3) := by decide +kernel
theorem dX1_flagOf_28 : decode cX1_flagOf 28 = .ok (.sipush 256, 3) := by decide +kernel
theorem dX1_flagOf_31 : decode cX1_flagOf 31 = .ok (.iadd, 1) := by decide +kernel
theorem dX1_flagOf_32 : decode cX1_flagOf 32 = .ok (.ireturn, 1) := by decide +kernel
