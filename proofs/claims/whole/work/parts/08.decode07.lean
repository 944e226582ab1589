theorem dX3_writeNoHit_0 : decode cX3_writeNoHit 0 = .ok (.aload_n 0, 1) := by decide +kernel
theorem dX3_writeNoHit_1 : decode cX3_writeNoHit 1 = .ok (.getfield 19, 3) := by decide +kernel
theorem dX3_writeNoHit_4 : decode cX3_writeNoHit 4 = .ok (.ldc 80, 2) := by decide +kernel
theorem dX3_writeNoHit_6 : decode cX3_writeNoHit 6 = .ok (.invokevirtual 51, 3) := by decide +kernel
theorem dX3_writeNoHit_9 : decode cX3_writeNoHit 9 = .ok (.aload_n 0, 1) := by decide +kernel
theorem dX3_writeNoHit_10 : decode cX3_writeNoHit 10 = .ok (.getfield 19, 3) := by decide +kernel
theorem dX3_writeNoHit_13 : decode cX3_writeNoHit 13 = .ok (.iload_n 2, 1) := by decide +kernel
theorem dX3_writeNoHit_14 : decode cX3_writeNoHit 14 = .ok (.invokevirtual 55, 3) := by decide +kernel
theorem dX3_writeNoHit_17 : decode cX3_writeNoHit 17 = .ok (.aload_n 0, 1) := by decide +kernel
theorem dX3_writeNoHit_18 : decode cX3_writeNoHit 18 = .ok (.getfield 19, 3) := by decide +kernel
theorem dX3_writeNoHit_21 : decode cX3_writeNoHit 21 = .ok (.ldc 82, 2) := by decide +kernel
theorem dX3_writeNoHit_23 : decode cX3_writeNoHit 23 = .ok (.invokevirtual 51, 3) := by decide +kernel
theorem dX3_writeNoHit_26 : decode cX3_writeNoHit 26 = .ok (.aload_n 0, 1) := by decide +kernel
theorem dX3_writeNoHit_27 : decode cX3_writeNoHit 27 = .ok (.getfield 19, 3) := by decide +kernel
theorem dX3_writeNoHit_30 : decode cX3_writeNoHit 30 = .ok (.aload_n 1, 1) := by decide +kernel
theorem dX3_writeNoHit_31 : decode cX3_writeNoHit 31 = .ok (.invokevirtual 84, 3) := by decide +kernel
theorem dX3_writeNoHit_34 : decode cX3_writeNoHit 34 = .ok (.aload_n 0, 1) := by decide +kernel
theorem dX3_writeNoHit_35 : decode cX3_writeNoHit 35 = .ok (.getfield 19, 3) := by decide +kernel
theorem dX3_writeNoHit_38 : decode cX3_writeNoHit 38 = .ok (.ldc 88, 2) := by decide +kernel
theorem dX3_writeNoHit_40 : decode cX3_writeNoHit 40 = .ok (.invokevirtual 51, 3) := by decide +kernel
theorem dX3_writeNoHit_43 : decode cX3_writeNoHit 43 = .ok (.return_, 1) := by decide +kernel
theorem dX3_writeHit_0 : decode cX3_writeHit 0 = .ok (.aload_n 0, 1) := by decide +kernel
theorem dX3_writeHit_1 : decode cX3_writeHit 1 = .ok (.getfield 19, 3) := by decide +kernel
theorem dX3_writeHit_4 : decode cX3_writeHit 4 = .ok (.ldc 80, 2) := by decide +kernel
theorem dX3_writeHit_6 : decode cX3_writeHit 6 = .ok (.invokevirtual 51, 3) := by decide +kernel
theorem dX3_writeHit_9 : decode cX3_writeHit 9 = .ok (.aload_n 0, 1) := by decide +kernel
theorem dX3_writeHit_10 : decode cX3_writeHit 10 = .ok (.getfield 19, 3) := by decide +kernel
theorem dX3_writeHit_13 : decode cX3_writeHit 13 = .ok (.iload_n 3, 1) := by decide +kernel
theorem dX3_writeHit_14 : decode cX3_writeHit 14 = .ok (.invokevirtual 55, 3) := by decide +kernel
theorem dX3_writeHit_17 : decode cX3_writeHit 17 = .ok (.aload_n 0, 1) := by decide +kernel
theorem dX3_writeHit_18 : decode cX3_writeHit 18 = .ok (.getfield 19, 3) := by decide +kernel
theorem dX3_writeHit_21 : decode cX3_writeHit 21 = .ok (.ldc 90, 2) := by decide +kernel
theorem dX3_writeHit_23 : decode cX3_writeHit 23 = .ok (.invokevirtual 51, 3) := by decide +kernel
theorem dX3_writeHit_26 : decode cX3_writeHit 26 = .ok (.aload_n 0, 1) := by decide +kernel
theorem dX3_writeHit_27 : decode cX3_writeHit 27 = .ok (.getfield 19, 3) := by decide +kernel
theorem dX3_writeHit_30 : decode cX3_writeHit 30 = .ok (.aload_n 0, 1) := by decide +kernel
theorem dX3_writeHit_31 : decode cX3_writeHit 31 = .ok (.getfield 10, 3) := by decide +kernel
theorem dX3_writeHit_34 : decode cX3_writeHit 34 = .ok (.iload 4, 2) := by decide +kernel
theorem dX3_writeHit_36 : decode cX3_writeHit 36 = .ok (.invokevirtual 92, 3) := by decide +kernel
theorem dX3_writeHit_39 : decode cX3_writeHit 39 = .ok (.invokevirtual 55, 3) := by decide +kernel
theorem dX3_writeHit_42 : decode cX3_writeHit 42 = .ok (.aload_n 0, 1) := by decide +kernel
theorem dX3_writeHit_43 : decode cX3_writeHit 43 = .ok (.getfield 19, 3) := by decide +kernel
theorem dX3_writeHit_46 : decode cX3_writeHit 46 = .ok (.ldc 96, 2) := by decide +kernel
theorem dX3_writeHit_48 : decode cX3_writeHit 48 = .ok (.invokevirtual 51, 3) := by decide +kernel
theorem dX3_writeHit_51 : decode cX3_writeHit 51 = .ok (.aload_n 0, 1) := by decide +kernel
theorem dX3_writeHit_52 : decode cX3_writeHit 52 = .ok (.getfield 19, 3) := by decide +kernel
theorem dX3_writeHit_55 : decode cX3_writeHit 55 = .ok (.aload_n 0, 1) := by decide +kernel
theorem dX3_writeHit_56 : decode cX3_writeHit 56 = .ok (.getfield 10, 3) := by decide +kernel
theorem dX3_writeHit_59 : decode cX3_writeHit 59 = .ok (.getfield 98, 3) := by decide +kernel
theorem dX3_writeHit_62 : decode cX3_writeHit 62 = .ok (.iload 4, 2) := by decide +kernel
theorem dX3_writeHit_64 : decode cX3_writeHit 64 = .ok (.iaload, 1) := by decide +kernel
theorem dX3_writeHit_65 : decode cX3_writeHit 65 = .ok (.iconst 1, 1) := by decide +kernel
theorem dX3_writeHit_66 : decode cX3_writeHit 66 = .ok (.iadd, 1) := by decide +kernel
theorem dX3_writeHit_67 : decode cX3_writeHit 67 = .ok (.invokevirtual 55, 3) := by decide +kernel
theorem dX3_writeHit_70 : decode cX3_writeHit 70 = .ok (.aload_n 0, 1) := by decide +kernel
theorem dX3_writeHit_71 : decode cX3_writeHit 71 = .ok (.getfield 19, 3) := by decide +kernel
theorem dX3_writeHit_74 : decode cX3_writeHit 74 = .ok (.ldc 90, 2) := by decide +kernel
theorem dX3_writeHit_76 : decode cX3_writeHit 76 = .ok (.invokevirtual 51, 3) := by decide +kernel
theorem dX3_writeHit_79 : decode cX3_writeHit 79 = .ok (.aload_n 0, 1) := by decide +kernel
theorem dX3_writeHit_80 : decode cX3_writeHit 80 = .ok (.getfield 19, 3) := by decide +kernel
theorem dX3_writeHit_83 : decode cX3_writeHit 83 = .ok (.aload_n 0, 1) := by decide +kernel
theorem dX3_writeHit_84 : decode cX3_writeHit 84 = .ok (.getfield 10, 3) := by decide +kernel
theorem dX3_writeHit_87 : decode cX3_writeHit 87 = .ok (.iload 4, 2) := by decide +kernel
theorem dX3_writeHit_89 : decode cX3_writeHit 89 = .ok (.invokevirtual 101, 3) := by decide +kernel
theorem dX3_writeHit_92 : decode cX3_writeHit 92 = .ok (.invokevirtual 55, 3) := by decide +kernel
theorem dX3_writeHit_95 : decode cX3_writeHit 95 = .ok (.aload_n 0, 1) := by decide +kernel
theorem dX3_writeHit_96 : decode cX3_writeHit 96 = .ok (.getfield 19, 3) := by decide +kernel
theorem dX3_writeHit_99 : decode cX3_writeHit 99 = .ok (.ldc 90, 2) := by decide +kernel
theorem dX3_writeHit_101 : decode cX3_writeHit 101 = .ok (.invokevirtual 51, 3) := by decide +kernel
theorem dX3_writeHit_104 : decode cX3_writeHit 104 = .ok (.aload_n 0, 1) := by decide +kernel
theorem dX3_writeHit_105 : decode cX3_writeHit 105 = .ok (.getfield 19, 3) := by decide +kernel
theorem dX3_writeHit_108 : decode cX3_writeHit 108 = .ok (.aload_n 2, 1) := by decide +kernel
theorem dX3_writeHit_109 : decode cX3_writeHit 109 = .ok (.getfield 26, 3) := by decide +kernel
theorem dX3_writeHit_112 : decode cX3_writeHit 112 = .ok (.invokevirtual 55, 3) := by decide +kernel
theorem dX3_writeHit_115 : decode cX3_writeHit 115 = .ok (.aload_n 0, 1) := by decide +kernel
theorem dX3_writeHit_116 : decode cX3_writeHit 116 = .ok (.getfield 19, 3) := by decide +kernel
theorem dX3_writeHit_119 : decode cX3_writeHit 119 = .ok (.ldc 104, 2) := by decide +kernel
theorem dX3_writeHit_121 : decode cX3_writeHit 121 = .ok (.invokevirtual 51, 3) := by decide +kernel
theorem dX3_writeHit_124 : decode cX3_writeHit 124 = .ok (.iload 4, 2) := by decide +kernel
theorem dX3_writeHit_126 : decode cX3_writeHit 126 = .ok (.aload_n 0, 1) := by decide +kernel
theorem dX3_writeHit_127 : decode cX3_writeHit 127 = .ok (.getfield 10, 3) := by decide +kernel
theorem dX3_writeHit_130 : decode cX3_writeHit 130 = .ok (.getfield 106, 3) := by decide +kernel
theorem dX3_writeHit_133 : decode cX3_writeHit 133 = .ok (.if_icmp .ne 14, 3) := by decide +kernel
theorem dX3_writeHit_136 : decode cX3_writeHit 136 = .ok (.aload_n 0, 1) := by decide +kernel
theorem dX3_writeHit_137 : decode cX3_writeHit 137 = .ok (.getfield 19, 3) := by decide +kernel
theorem dX3_writeHit_140 : decode cX3_writeHit 140 = .ok (.aload_n 2, 1) := by decide +kernel
theorem dX3_writeHit_141 : decode cX3_writeHit 141 = .ok (.invokevirtual 84, 3) := by decide +kernel
theorem dX3_writeHit_144 : decode cX3_writeHit 144 = .ok (.goto 12, 3) := by decide +kernel
theorem dX3_writeHit_147 : decode cX3_writeHit 147 = .ok (.aload_n 0, 1) := by decide +kernel
theorem dX3_writeHit_148 : decode cX3_writeHit 148 = .ok (.getfield 19, 3) := by decide +kernel
theorem dX3_writeHit_151 : decode cX3_writeHit 151 = .ok (.ldc 109, 2) := by decide +kernel
theorem dX3_writeHit_153 : decode cX3_writeHit 153 = .ok (.invokevirtual 51, 3) := by decide +kernel
theorem dX3_writeHit_156 : decode cX3_writeHit 156 = .ok (.aload_n 0, 1) := by decide +kernel
theorem dX3_writeHit_157 : decode cX3_writeHit 157 = .ok (.getfield 19, 3) := by decide +kernel
theorem dX3_writeHit_160 : decode cX3_writeHit 160 = .ok (.ldc 111, 2) := by decide +kernel
theorem dX3_writeHit_162 : decode cX3_writeHit 162 = .ok (.invokevirtual 51, 3) := by decide +kernel
theorem dX3_writeHit_165 : decode cX3_writeHit 165 = .ok (.aload_n 0, 1) := by decide +kernel
theorem dX3_writeHit_166 : decode cX3_writeHit 166 = .ok (.getfield 19, 3) := by decide +kernel
theorem dX3_writeHit_169 : decode cX3_writeHit 169 = .ok (.aload_n 0, 1) := by decide +kernel
theorem dX3_writeHit_170 : decode cX3_writeHit 170 = .ok (.getfield 10, 3) := by decide +kernel
theorem dX3_writeHit_173 : decode cX3_writeHit 173 = .ok (.getfield 113, 3) := by decide +kernel
theorem dX3_writeHit_176 : decode cX3_writeHit 176 = .ok (.iload 4, 2) := by decide +kernel
theorem dX3_writeHit_178 : decode cX3_writeHit 178 = .ok (.iaload, 1) := by decide +kernel
theorem dX3_writeHit_179 : decode cX3_writeHit 179 = .ok (.invokevirtual 55, 3) := by decide +kernel
theorem dX3_writeHit_182 : decode cX3_writeHit 182 = .ok (.aload_n 0, 1) := by decide +kernel
theorem dX3_writeHit_183 : decode cX3_writeHit 183 = .ok (.getfield 19, 3) := by decide +kernel
theorem dX3_writeHit_186 : decode cX3_writeHit 186 = .ok (.ldc 116, 2) := by decide +kernel
theorem dX3_writeHit_188 : decode cX3_writeHit 188 = .ok (.invokevirtual 51, 3) := by decide +kernel
theorem dX3_writeHit_191 : decode cX3_writeHit 191 = .ok (.aload_n 0, 1) := by decide +kernel
theorem dX3_writeHit_192 : decode cX3_writeHit 192 = .ok (.getfield 19, 3) := by decide +kernel
theorem dX3_writeHit_195 : decode cX3_writeHit 195 = .ok (.aload_n 1, 1) := by decide +kernel
theorem dX3_writeHit_196 : decode cX3_writeHit 196 = .ok (.aload_n 0, 1) := by decide +kernel
theorem dX3_writeHit_197 : decode cX3_writeHit 197 = .ok (.getfield 10, 3) := by decide +kernel
theorem dX3_writeHit_200 : decode cX3_writeHit 200 = .ok (.getfield 98, 3) := by decide +kernel
theorem dX3_writeHit_203 : decode cX3_writeHit 203 = .ok (.iload 4, 2) := by decide +kernel
theorem dX3_writeHit_205 : decode cX3_writeHit 205 = .ok (.iaload, 1) := by decide +kernel
theorem dX3_writeHit_206 : decode cX3_writeHit 206 = .ok (.aload_n 2, 1) := by decide +kernel
theorem dX3_writeHit_207 : decode cX3_writeHit 207 = .ok (.invokevirtual 118, 3) := by decide +kernel
theorem dX3_writeHit_210 : decode cX3_writeHit 210 = .ok (.aload_n 0, 1) := by decide +kernel
theorem dX3_writeHit_211 : decode cX3_writeHit 211 = .ok (.getfield 19, 3) := by decide +kernel
theorem dX3_writeHit_214 : decode cX3_writeHit 214 = .ok (.ldc 59, 2) := by decide +kernel
theorem dX3_writeHit_216 : decode cX3_writeHit 216 = .ok (.invokevirtual 51, 3) := by decide +kernel
theorem dX3_writeHit_219 : decode cX3_writeHit 219 = .ok (.return_, 1) := by decide +kernel
theorem dX3_writeMap_0 : decode cX3_writeMap 0 = .ok (.aload_n 0, 1) := by decide +kernel
theorem dX3_writeMap_1 : decode cX3_writeMap 1 = .ok (.getfield 19, 3) := by decide +kernel
theorem dX3_writeMap_4 : decode cX3_writeMap 4 = .ok (.invokevirtual 48, 3) := by decide +kernel
theorem dX3_writeMap_7 : decode cX3_writeMap 7 = .ok (.aload_n 0, 1) := by decide +kernel
theorem dX3_writeMap_8 : decode cX3_writeMap 8 = .ok (.getfield 19, 3) := by decide +kernel
theorem dX3_writeMap_11 : decode cX3_writeMap 11 = .ok (.ldc 49, 2) := by decide +kernel
theorem dX3_writeMap_13 : decode cX3_writeMap 13 = .ok (.invokevirtual 51, 3) := by decide +kernel
theorem dX3_writeMap_16 : decode cX3_writeMap 16 = .ok (.aload_n 0, 1) := by decide +kernel
theorem dX3_writeMap_17 : decode cX3_writeMap 17 = .ok (.getfield 19, 3) := by decide +kernel
theorem dX3_writeMap_20 : decode cX3_writeMap 20 = .ok (.aload_n 1, 1) := by decide +kernel
theorem dX3_writeMap_21 : decode cX3_writeMap 21 = .ok (.getfield 26, 3) := by decide +kernel
theorem dX3_writeMap_24 : decode cX3_writeMap 24 = .ok (.invokevirtual 55, 3) := by decide +kernel
theorem dX3_writeMap_27 : decode cX3_writeMap 27 = .ok (.aload_n 0, 1) := by decide +kernel
theorem dX3_writeMap_28 : decode cX3_writeMap 28 = .ok (.getfield 19, 3) := by decide +kernel
theorem dX3_writeMap_31 : decode cX3_writeMap 31 = .ok (.ldc 59, 2) := by decide +kernel
theorem dX3_writeMap_33 : decode cX3_writeMap 33 = .ok (.invokevirtual 51, 3) := by decide +kernel
theorem dX3_writeMap_36 : decode cX3_writeMap 36 = .ok (.aload_n 0, 1) := by decide +kernel
theorem dX3_writeMap_37 : decode cX3_writeMap 37 = .ok (.getfield 10, 3) := by decide +kernel
theorem dX3_writeMap_40 : decode cX3_writeMap 40 = .ok (.getfield 61, 3) := by decide +kernel
theorem dX3_writeMap_43 : decode cX3_writeMap 43 = .ok (.ifCond .ne 10, 3) := by decide +kernel
theorem dX3_writeMap_46 : decode cX3_writeMap 46 = .ok (.aload_n 0, 1) := by decide +kernel
theorem dX3_writeMap_47 : decode cX3_writeMap 47 = .ok (.aload_n 2, 1) := by decide +kernel
theorem dX3_writeMap_48 : decode cX3_writeMap 48 = .ok (.iload 4, 2) := by decide +kernel
theorem dX3_writeMap_50 : decode cX3_writeMap 50 = .ok (.invokevirtual 64, 3) := by decide +kernel
theorem dX3_writeMap_53 : decode cX3_writeMap 53 = .ok (.iconst 0, 1) := by decide +kernel
theorem dX3_writeMap_54 : decode cX3_writeMap 54 = .ok (.istore 5, 2) := by decide +kernel
theorem dX3_writeMap_56 : decode cX3_writeMap 56 = .ok (.iload 5, 2) := by decide +kernel
theorem dX3_writeMap_58 : decode cX3_writeMap 58 = .ok (.aload_n 0, 1) := by decide +kernel
theorem dX3_writeMap_59 : decode cX3_writeMap 59 = .ok (.getfield 10, 3) := by decide +kernel
theorem dX3_writeMap_62 : decode cX3_writeMap 62 = .ok (.getfield 61, 3) := by decide +kernel
theorem dX3_writeMap_65 : decode cX3_writeMap 65 = .ok (.if_icmp .ge 46, 3) := by decide +kernel
theorem dX3_writeMap_68 : decode cX3_writeMap 68 = .ok (.aload_n 0, 1) := by decide +kernel
theorem dX3_writeMap_69 : decode cX3_writeMap 69 = .ok (.getfield 19, 3) := by decide +kernel
theorem dX3_writeMap_72 : decode cX3_writeMap 72 = .ok (.invokevirtual 68, 3) := by decide +kernel
theorem dX3_writeMap_75 : decode cX3_writeMap 75 = .ok (.ifCond .ne 36, 3) := by decide +kernel
theorem dX3_writeMap_78 : decode cX3_writeMap 78 = .ok (.aload_n 0, 1) := by decide +kernel
theorem dX3_writeMap_79 : decode cX3_writeMap 79 = .ok (.aload_n 1, 1) := by decide +kernel
theorem dX3_writeMap_80 : decode cX3_writeMap 80 = .ok (.aload_n 0, 1) := by decide +kernel
theorem dX3_writeMap_81 : decode cX3_writeMap 81 = .ok (.getfield 10, 3) := by decide +kernel
theorem dX3_writeMap_84 : decode cX3_writeMap 84 = .ok (.getfield 72, 3) := by decide +kernel
theorem dX3_writeMap_87 : decode cX3_writeMap 87 = .ok (.iload 5, 2) := by decide +kernel
theorem dX3_writeMap_89 : decode cX3_writeMap 89 = .ok (.iaload, 1) := by decide +kernel
theorem dX3_writeMap_90 : decode cX3_writeMap 90 = .ok (.ifCond .ne 7, 3) := by decide +kernel
theorem dX3_writeMap_93 : decode cX3_writeMap 93 = .ok (.aload_n 2, 1) := by decide +kernel
theorem dX3_writeMap_94 : decode cX3_writeMap 94 = .ok (.goto 4, 3) := by decide +kernel
theorem dX3_writeMap_97 : decode cX3_writeMap 97 = .ok (.aload_n 3, 1) := by decide +kernel
theorem dX3_writeMap_98 : decode cX3_writeMap 98 = .ok (.iload 4, 2) := by decide +kernel
theorem dX3_writeMap_100 : decode cX3_writeMap 100 = .ok (.iload 5, 2) := by decide +kernel
theorem dX3_writeMap_102 : decode cX3_writeMap 102 = .ok (.invokevirtual 76, 3) := by decide +kernel
theorem dX3_writeMap_105 : decode cX3_writeMap 105 = .ok (.iinc 5 1, 3) := by decide +kernel
theorem dX3_writeMap_108 : decode cX3_writeMap 108 = .ok (.goto (-52), 3) := by decide +kernel
theorem dX3_writeMap_111 : decode cX3_writeMap 111 = .ok (.return_, 1) := by decide +kernel
theorem dX5_map_0 : decode cX5_map 0 = .ok (.iload_n 1, 1) := by decide +kernel
theorem dX5_map_1 : decode cX5_map 1 = .ok (.ifCond .lt 8, 3) := by decide +kernel
theorem dX5_map_4 : decode cX5_map 4 = .ok (.iload_n 1, 1) := by decide +kernel
theorem dX5_map_5 : decode cX5_map 5 = .ok (.iconst 4, 1) := by decide +kernel
theorem dX5_map_6 : decode cX5_map 6 = .ok (.if_icmp .le 6, 3) := by decide +kernel
theorem dX5_map_9 : decode cX5_map 9 = .ok (.bipush (-2), 2) := by decide +kernel
theorem dX5_map_11 : decode cX5_map 11 = .ok (.ireturn, 1) := by decide +kernel
theorem dX5_map_12 : decode cX5_map 12 = .ok (.aload_n 0, 1) := by decide +kernel
theorem dX5_map_13 : decode cX5_map 13 = .ok (.getfield 27, 3) := by decide +kernel
theorem dX5_map_16 : decode cX5_map 16 = .ok (.getfield 63, 3) := by decide +kernel
theorem dX5_map_19 : decode cX5_map 19 = .ok (.ifCond .ne 6, 3) := by decide +kernel
theorem dX5_map_22 : decode cX5_map 22 = .ok (.bipush (-3), 2) := by decide +kernel
theorem dX5_map_24 : decode cX5_map 24 = .ok (.ireturn, 1) := by decide +kernel
theorem dX5_map_25 : decode cX5_map 25 = .ok (.aload_n 0, 1) := by decide +kernel
theorem dX5_map_26 : decode cX5_map 26 = .ok (.getfield 30, 3) := by decide +kernel
theorem dX5_map_29 : decode cX5_map 29 = .ok (.aload_n 0, 1) := by decide +kernel
theorem dX5_map_30 : decode cX5_map 30 = .ok (.getfield 27, 3) := by decide +kernel
theorem dX5_map_33 : decode cX5_map 33 = .ok (.invokevirtual 60, 3) := by decide +kernel
theorem dX5_map_36 : decode cX5_map 36 = .ok (.aload_n 0, 1) := by decide +kernel
theorem dX5_map_37 : decode cX5_map 37 = .ok (.getfield 40, 3) := by decide +kernel
theorem dX5_map_40 : decode cX5_map 40 = .ok (.aload_n 0, 1) := by decide +kernel
theorem dX5_map_41 : decode cX5_map 41 = .ok (.getfield 14, 3) := by decide +kernel
theorem dX5_map_44 : decode cX5_map 44 = .ok (.aload_n 0, 1) := by decide +kernel
theorem dX5_map_45 : decode cX5_map 45 = .ok (.getfield 27, 3) := by decide +kernel
theorem dX5_map_48 : decode cX5_map 48 = .ok (.aload_n 0, 1) := by decide +kernel
theorem dX5_map_49 : decode cX5_map 49 = .ok (.getfield 30, 3) := by decide +kernel
theorem dX5_map_52 : decode cX5_map 52 = .ok (.iload_n 1, 1) := by decide +kernel
theorem dX5_map_53 : decode cX5_map 53 = .ok (.invokevirtual 85, 3) := by decide +kernel
theorem dX5_map_56 : decode cX5_map 56 = .ok (.aload_n 0, 1) := by decide +kernel
theorem dX5_map_57 : decode cX5_map 57 = .ok (.getfield 40, 3) := by decide +kernel
theorem dX5_map_60 : decode cX5_map 60 = .ok (.aload_n 0, 1) := by decide +kernel
theorem dX5_map_61 : decode cX5_map 61 = .ok (.getfield 14, 3) := by decide +kernel
theorem dX5_map_64 : decode cX5_map 64 = .ok (.aload_n 0, 1) := by decide +kernel
theorem dX5_map_65 : decode cX5_map 65 = .ok (.getfield 27, 3) := by decide +kernel
theorem dX5_map_68 : decode cX5_map 68 = .ok (.aload_n 0, 1) := by decide +kernel
theorem dX5_map_69 : decode cX5_map 69 = .ok (.getfield 30, 3) := by decide +kernel
theorem dX5_map_72 : decode cX5_map 72 = .ok (.aload_n 0, 1) := by decide +kernel
theorem dX5_map_73 : decode cX5_map 73 = .ok (.getfield 43, 3) := by decide +kernel
theorem dX5_map_76 : decode cX5_map 76 = .ok (.iconst 1, 1) := by decide +kernel
theorem dX5_map_77 : decode cX5_map 77 = .ok (.iadd, 1) := by decide +kernel
theorem dX5_map_78 : decode cX5_map 78 = .ok (.invokevirtual 89, 3) := by decide +kernel
theorem dX5_map_81 : decode cX5_map 81 = .ok (.aload_n 0, 1) := by decide +kernel
theorem dX5_map_82 : decode cX5_map 82 = .ok (.getfield 40, 3) := by decide +kernel
theorem dX5_map_85 : decode cX5_map 85 = .ok (.getfield 92, 3) := by decide +kernel
theorem dX5_map_88 : decode cX5_map 88 = .ok (.invokevirtual 96, 3) := by decide +kernel
theorem dX5_map_91 : decode cX5_map 91 = .ok (.ifCond .eq 6, 3) := by decide +kernel
theorem dX5_map_94 : decode cX5_map 94 = .ok (.bipush (-4), 2) := by decide +kernel
theorem dX5_map_96 : decode cX5_map 96 = .ok (.ireturn, 1) := by decide +kernel
theorem dX5_map_97 : decode cX5_map 97 = .ok (.aload_n 0, 1) := by decide +kernel
theorem dX5_map_98 : decode cX5_map 98 = .ok (.getfield 36, 3) := by decide +kernel
theorem dX5_map_101 : decode cX5_map 101 = .ok (.astore_n 2, 1) := by decide +kernel
theorem dX5_map_102 : decode cX5_map 102 = .ok (.aload_n 0, 1) := by decide +kernel
theorem dX5_map_103 : decode cX5_map 103 = .ok (.aload_n 0, 1) := by decide +kernel
theorem dX5_map_104 : decode cX5_map 104 = .ok (.getfield 40, 3) := by decide +kernel
theorem dX5_map_107 : decode cX5_map 107 = .ok (.putfield 36, 3) := by decide +kernel
theorem dX5_map_110 : decode cX5_map 110 = .ok (.aload_n 0, 1) := by decide +kernel
theorem dX5_map_111 : decode cX5_map 111 = .ok (.aload_n 2, 1) := by decide +kernel
theorem dX5_map_112 : decode cX5_map 112 = .ok (.putfield 40, 3) := by decide +kernel
theorem dX5_map_115 : decode cX5_map 115 = .ok (.aload_n 0, 1) := by decide +kernel
theorem dX5_map_116 : decode cX5_map 116 = .ok (.dup, 1) := by decide +kernel
theorem dX5_map_117 : decode cX5_map 117 = .ok (.getfield 43, 3) := by decide +kernel
theorem dX5_map_120 : decode cX5_map 120 = .ok (.iconst 1, 1) := by decide +kernel
theorem dX5_map_121 : decode cX5_map 121 = .ok (.iadd, 1) := by decide +kernel
theorem dX5_map_122 : decode cX5_map 122 = .ok (.putfield 43, 3) := by decide +kernel
theorem dX5_map_125 : decode cX5_map 125 = .ok (.aload_n 0, 1) := by decide +kernel
theorem dX5_map_126 : decode cX5_map 126 = .ok (.getfield 36, 3) := by decide +kernel
theorem dX5_map_129 : decode cX5_map 129 = .ok (.getfield 101, 3) := by decide +kernel
theorem dX5_map_132 : decode cX5_map 132 = .ok (.getfield 105, 3) := by decide +kernel
theorem dX5_map_135 : decode cX5_map 135 = .ok (.ireturn, 1) := by decide +kernel
theorem dX5_hit_0 : decode cX5_hit 0 = .ok (.aload_n 0, 1) := by decide +kernel
theorem dX5_hit_1 : decode cX5_hit 1 = .ok (.getfield 36, 3) := by decide +kernel
theorem dX5_hit_4 : decode cX5_hit 4 = .ok (.getfield 101, 3) := by decide +kernel
theorem dX5_hit_7 : decode cX5_hit 7 = .ok (.astore_n 3, 1) := by decide +kernel
theorem dX5_hit_8 : decode cX5_hit 8 = .ok (.iload_n 1, 1) := by decide +kernel
theorem dX5_hit_9 : decode cX5_hit 9 = .ok (.ifCond .lt 11, 3) := by decide +kernel
theorem dX5_hit_12 : decode cX5_hit 12 = .ok (.iload_n 1, 1) := by decide +kernel
theorem dX5_hit_13 : decode cX5_hit 13 = .ok (.aload_n 3, 1) := by decide +kernel
theorem dX5_hit_14 : decode cX5_hit 14 = .ok (.getfield 105, 3) := by decide +kernel
theorem dX5_hit_17 : decode cX5_hit 17 = .ok (.if_icmp .lt 6, 3) := by decide +kernel
theorem dX5_hit_20 : decode cX5_hit 20 = .ok (.bipush (-2), 2) := by decide +kernel
theorem dX5_hit_22 : decode cX5_hit 22 = .ok (.ireturn, 1) := by decide +kernel
theorem dX5_hit_23 : decode cX5_hit 23 = .ok (.iload_n 2, 1) := by decide +kernel
theorem dX5_hit_24 : decode cX5_hit 24 = .ok (.tableswitch 67 0 3 #[32, 39, 46, 53], 32) := by decide +kernel
theorem dX5_hit_56 : decode cX5_hit 56 = .ok (.aload_n 3, 1) := by decide +kernel
theorem dX5_hit_57 : decode cX5_hit 57 = .ok (.getfield 110, 3) := by decide +kernel
theorem dX5_hit_60 : decode cX5_hit 60 = .ok (.iload_n 1, 1) := by decide +kernel
theorem dX5_hit_61 : decode cX5_hit 61 = .ok (.iaload, 1) := by decide +kernel
theorem dX5_hit_62 : decode cX5_hit 62 = .ok (.ireturn, 1) := by decide +kernel
theorem dX5_hit_63 : decode cX5_hit 63 = .ok (.aload_n 3, 1) := by decide +kernel
theorem dX5_hit_64 : decode cX5_hit 64 = .ok (.getfield 114, 3) := by decide +kernel
theorem dX5_hit_67 : decode cX5_hit 67 = .ok (.iload_n 1, 1) := by decide +kernel
theorem dX5_hit_68 : decode cX5_hit 68 = .ok (.iaload, 1) := by decide +kernel
theorem dX5_hit_69 : decode cX5_hit 69 = .ok (.ireturn, 1) := by decide +kernel
theorem dX5_hit_70 : decode cX5_hit 70 = .ok (.aload_n 3, 1) := by decide +kernel
theorem dX5_hit_71 : decode cX5_hit 71 = .ok (.getfield 117, 3) := by decide +kernel
theorem dX5_hit_74 : decode cX5_hit 74 = .ok (.iload_n 1, 1) := by decide +kernel
theorem dX5_hit_75 : decode cX5_hit 75 = .ok (.iaload, 1) := by decide +kernel
theorem dX5_hit_76 : decode cX5_hit 76 = .ok (.ireturn, 1) := by decide +kernel
theorem dX5_hit_77 : decode cX5_hit 77 = .ok (.iload_n 1, 1) := by decide +kernel
theorem dX5_hit_78 : decode cX5_hit 78 = .ok (.aload_n 3, 1) := by decide +kernel
theorem dX5_hit_79 : decode cX5_hit 79 = .ok (.getfield 120, 3) := by decide +kernel
theorem dX5_hit_82 : decode cX5_hit 82 = .ok (.if_icmp .ne 7, 3) := by decide +kernel
theorem dX5_hit_85 : decode cX5_hit 85 = .ok (.iconst 1, 1) := by decide +kernel
theorem dX5_hit_86 : decode cX5_hit 86 = .ok (.goto 4, 3) := by decide +kernel
theorem dX5_hit_89 : decode cX5_hit 89 = .ok (.iconst 0, 1) := by decide +kernel
theorem dX5_hit_90 : decode cX5_hit 90 = .ok (.ireturn, 1) := by decide +kernel
theorem dX5_hit_91 : decode cX5_hit 91 = .ok (.bipush (-2), 2) := by decide +kernel
theorem dX5_hit_93 : decode cX5_hit 93 = .ok (.ireturn, 1) := by decide +kernel
