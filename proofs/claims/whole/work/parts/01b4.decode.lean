theorem dX6_nextOrder_129 : decode cX6_nextOrder 129 = .ok (.iastore, 1) := by decide +kernel
theorem dX6_nextOrder_130 : decode cX6_nextOrder 130 = .ok (.aload_n 0, 1) := by decide +kernel
theorem dX6_nextOrder_131 : decode cX6_nextOrder 131 = .ok (.getfield 39, 3) := by decide +kernel
theorem dX6_nextOrder_134 : decode cX6_nextOrder 134 = .ok (.iload 6, 2) := by decide +kernel
theorem dX6_nextOrder_136 : decode cX6_nextOrder 136 = .ok (.iload 4, 2) := by decide +kernel
theorem dX6_nextOrder_138 : decode cX6_nextOrder 138 = .ok (.iastore, 1) := by decide +kernel
theorem dX6_nextOrder_139 : decode cX6_nextOrder 139 = .ok (.iinc 5 1, 3) := by decide +kernel
theorem dX6_nextOrder_142 : decode cX6_nextOrder 142 = .ok (.iinc 6 (-1), 3) := by decide +kernel
theorem dX6_nextOrder_145 : decode cX6_nextOrder 145 = .ok (.goto (-45), 3) := by decide +kernel
theorem dX6_nextOrder_148 : decode cX6_nextOrder 148 = .ok (.iconst 1, 1) := by decide +kernel
theorem dX6_nextOrder_149 : decode cX6_nextOrder 149 = .ok (.ireturn, 1) := by decide +kernel
theorem dX6_row_0 : decode cX6_row 0 = .ok (.aload_n 0, 1) := by decide +kernel
theorem dX6_row_1 : decode cX6_row 1 = .ok (.getfield 7, 3) := by decide +kernel
theorem dX6_row_4 : decode cX6_row 4 = .ok (.bipush 33, 2) := by decide +kernel
theorem dX6_row_6 : decode cX6_row 6 = .ok (.iaload, 1) := by decide +kernel
theorem dX6_row_7 : decode cX6_row 7 = .ok (.istore_n 2, 1) := by decide +kernel
theorem dX6_row_8 : decode cX6_row 8 = .ok (.iload_n 1, 1) := by decide +kernel
theorem dX6_row_9 : decode cX6_row 9 = .ok (.i2l, 1) := by decide +kernel
theorem dX6_row_10 : decode cX6_row 10 = .ok (.lconst 0, 1) := by decide +kernel
theorem dX6_row_11 : decode cX6_row 11 = .ok (.iload_n 2, 1) := by decide +kernel
theorem dX6_row_12 : decode cX6_row 12 = .ok (.iconst 1, 1) := by decide +kernel
theorem dX6_row_13 : decode cX6_row 13 = .ok (.isub, 1) := by decide +kernel
theorem dX6_row_14 : decode cX6_row 14 = .ok (.i2l, 1) := by decide +kernel
theorem dX6_row_15 : decode cX6_row 15 = .ok (.invokestatic 86, 3) := by decide +kernel
theorem dX6_row_18 : decode cX6_row 18 = .ok (.ifCond .ne 8, 3) := by decide +kernel
theorem dX6_row_21 : decode cX6_row 21 = .ok (.aload_n 0, 1) := by decide +kernel
theorem dX6_row_22 : decode cX6_row 22 = .ok (.invokevirtual 100, 3) := by decide +kernel
theorem dX6_row_25 : decode cX6_row 25 = .ok (.ireturn, 1) := by decide +kernel
theorem dX6_row_26 : decode cX6_row 26 = .ok (.iconst 0, 1) := by decide +kernel
theorem dX6_row_27 : decode cX6_row 27 = .ok (.istore_n 3, 1) := by decide +kernel
theorem dX6_row_28 : decode cX6_row 28 = .ok (.iload_n 3, 1) := by decide +kernel
theorem dX6_row_29 : decode cX6_row 29 = .ok (.iload_n 2, 1) := by decide +kernel
theorem dX6_row_30 : decode cX6_row 30 = .ok (.if_icmp .ge 16, 3) := by decide +kernel
theorem dX6_row_33 : decode cX6_row 33 = .ok (.aload_n 0, 1) := by decide +kernel
theorem dX6_row_34 : decode cX6_row 34 = .ok (.getfield 39, 3) := by decide +kernel
theorem dX6_row_37 : decode cX6_row 37 = .ok (.iload_n 3, 1) := by decide +kernel
theorem dX6_row_38 : decode cX6_row 38 = .ok (.iload_n 3, 1) := by decide +kernel
theorem dX6_row_39 : decode cX6_row 39 = .ok (.iastore, 1) := by decide +kernel
theorem dX6_row_40 : decode cX6_row 40 = .ok (.iinc 3 1, 3) := by decide +kernel
theorem dX6_row_43 : decode cX6_row 43 = .ok (.goto (-15), 3) := by decide +kernel
theorem dX6_row_46 : decode cX6_row 46 = .ok (.iconst 1, 1) := by decide +kernel
theorem dX6_row_47 : decode cX6_row 47 = .ok (.istore_n 3, 1) := by decide +kernel
theorem dX6_row_48 : decode cX6_row 48 = .ok (.iload_n 3, 1) := by decide +kernel
theorem dX6_row_49 : decode cX6_row 49 = .ok (.ifCond .eq 89, 3) := by decide +kernel
theorem dX6_row_52 : decode cX6_row 52 = .ok (.iconst 1, 1) := by decide +kernel
theorem dX6_row_53 : decode cX6_row 53 = .ok (.istore 4, 2) := by decide +kernel
theorem dX6_row_55 : decode cX6_row 55 = .ok (.iconst 1, 1) := by decide +kernel
theorem dX6_row_56 : decode cX6_row 56 = .ok (.istore 5, 2) := by decide +kernel
theorem dX6_row_58 : decode cX6_row 58 = .ok (.iload 5, 2) := by decide +kernel
theorem dX6_row_60 : decode cX6_row 60 = .ok (.iload_n 2, 1) := by decide +kernel
theorem dX6_row_61 : decode cX6_row 61 = .ok (.if_icmp .ge 56, 3) := by decide +kernel
theorem dX6_row_64 : decode cX6_row 64 = .ok (.iload 4, 2) := by decide +kernel
theorem dX6_row_66 : decode cX6_row 66 = .ok (.ifCond .eq 42, 3) := by decide +kernel
theorem dX6_row_69 : decode cX6_row 69 = .ok (.aload_n 0, 1) := by decide +kernel
theorem dX6_row_70 : decode cX6_row 70 = .ok (.getfield 7, 3) := by decide +kernel
theorem dX6_row_73 : decode cX6_row 73 = .ok (.bipush 41, 2) := by decide +kernel
theorem dX6_row_75 : decode cX6_row 75 = .ok (.aload_n 0, 1) := by decide +kernel
theorem dX6_row_76 : decode cX6_row 76 = .ok (.getfield 39, 3) := by decide +kernel
theorem dX6_row_79 : decode cX6_row 79 = .ok (.iload 5, 2) := by decide +kernel
theorem dX6_row_81 : decode cX6_row 81 = .ok (.iaload, 1) := by decide +kernel
theorem dX6_row_82 : decode cX6_row 82 = .ok (.iadd, 1) := by decide +kernel
theorem dX6_row_83 : decode cX6_row 83 = .ok (.iaload, 1) := by decide +kernel
theorem dX6_row_84 : decode cX6_row 84 = .ok (.aload_n 0, 1) := by decide +kernel
theorem dX6_row_85 : decode cX6_row 85 = .ok (.getfield 7, 3) := by decide +kernel
theorem dX6_row_88 : decode cX6_row 88 = .ok (.bipush 41, 2) := by decide +kernel
theorem dX6_row_90 : decode cX6_row 90 = .ok (.aload_n 0, 1) := by decide +kernel
theorem dX6_row_91 : decode cX6_row 91 = .ok (.getfield 39, 3) := by decide +kernel
theorem dX6_row_94 : decode cX6_row 94 = .ok (.iload 5, 2) := by decide +kernel
theorem dX6_row_96 : decode cX6_row 96 = .ok (.iconst 1, 1) := by decide +kernel
theorem dX6_row_97 : decode cX6_row 97 = .ok (.isub, 1) := by decide +kernel
theorem dX6_row_98 : decode cX6_row 98 = .ok (.iaload, 1) := by decide +kernel
theorem dX6_row_99 : decode cX6_row 99 = .ok (.iadd, 1) := by decide +kernel
theorem dX6_row_100 : decode cX6_row 100 = .ok (.iaload, 1) := by decide +kernel
theorem dX6_row_101 : decode cX6_row 101 = .ok (.if_icmp .eq 7, 3) := by decide +kernel
theorem dX6_row_104 : decode cX6_row 104 = .ok (.iconst 1, 1) := by decide +kernel
theorem dX6_row_105 : decode cX6_row 105 = .ok (.goto 4, 3) := by decide +kernel
theorem dX6_row_108 : decode cX6_row 108 = .ok (.iconst 0, 1) := by decide +kernel
theorem dX6_row_109 : decode cX6_row 109 = .ok (.istore 4, 2) := by decide +kernel
theorem dX6_row_111 : decode cX6_row 111 = .ok (.iinc 5 1, 3) := by decide +kernel
theorem dX6_row_114 : decode cX6_row 114 = .ok (.goto (-56), 3) := by decide +kernel
theorem dX6_row_117 : decode cX6_row 117 = .ok (.iload 4, 2) := by decide +kernel
theorem dX6_row_119 : decode cX6_row 119 = .ok (.ifCond .eq 10, 3) := by decide +kernel
theorem dX6_row_122 : decode cX6_row 122 = .ok (.aload_n 0, 1) := by decide +kernel
theorem dX6_row_123 : decode cX6_row 123 = .ok (.getfield 39, 3) := by decide +kernel
theorem dX6_row_126 : decode cX6_row 126 = .ok (.iload_n 1, 1) := by decide +kernel
theorem dX6_row_127 : decode cX6_row 127 = .ok (.iaload, 1) := by decide +kernel
theorem dX6_row_128 : decode cX6_row 128 = .ok (.ireturn, 1) := by decide +kernel
theorem dX6_row_129 : decode cX6_row 129 = .ok (.aload_n 0, 1) := by decide +kernel
theorem dX6_row_130 : decode cX6_row 130 = .ok (.iload_n 2, 1) := by decide +kernel
theorem dX6_row_131 : decode cX6_row 131 = .ok (.invokevirtual 249, 3) := by decide +kernel
theorem dX6_row_134 : decode cX6_row 134 = .ok (.istore_n 3, 1) := by decide +kernel
theorem dX6_row_135 : decode cX6_row 135 = .ok (.goto (-87), 3) := by decide +kernel
theorem dX6_row_138 : decode cX6_row 138 = .ok (.iconst (-1), 1) := by decide +kernel
theorem dX6_row_139 : decode cX6_row 139 = .ok (.ireturn, 1) := by decide +kernel
theorem dX6_blur_0 : decode cX6_blur 0 = .ok (.aload_n 0, 1) := by decide +kernel
theorem dX6_blur_1 : decode cX6_blur 1 = .ok (.iload_n 1, 1) := by decide +kernel
theorem dX6_blur_2 : decode cX6_blur 2 = .ok (.invokevirtual 197, 3) := by decide +kernel
theorem dX6_blur_5 : decode cX6_blur 5 = .ok (.ifCond .eq 36, 3) := by decide +kernel
theorem dX6_blur_8 : decode cX6_blur 8 = .ok (.aload_n 0, 1) := by decide +kernel
theorem dX6_blur_9 : decode cX6_blur 9 = .ok (.iload_n 2, 1) := by decide +kernel
theorem dX6_blur_10 : decode cX6_blur 10 = .ok (.invokevirtual 194, 3) := by decide +kernel
theorem dX6_blur_13 : decode cX6_blur 13 = .ok (.ifCond .eq 28, 3) := by decide +kernel
theorem dX6_blur_16 : decode cX6_blur 16 = .ok (.iload_n 3, 1) := by decide +kernel
theorem dX6_blur_17 : decode cX6_blur 17 = .ok (.i2l, 1) := by decide +kernel
theorem dX6_blur_18 : decode cX6_blur 18 = .ok (.lconst 0, 1) := by decide +kernel
theorem dX6_blur_19 : decode cX6_blur 19 = .ok (.ldc2_w 252, 3) := by decide +kernel
theorem dX6_blur_22 : decode cX6_blur 22 = .ok (.invokestatic 86, 3) := by decide +kernel
theorem dX6_blur_25 : decode cX6_blur 25 = .ok (.ifCond .eq 16, 3) := by decide +kernel
theorem dX6_blur_28 : decode cX6_blur 28 = .ok (.iload 4, 2) := by decide +kernel
theorem dX6_blur_30 : decode cX6_blur 30 = .ok (.i2l, 1) := by decide +kernel
theorem dX6_blur_31 : decode cX6_blur 31 = .ok (.lconst 0, 1) := by decide +kernel
theorem dX6_blur_32 : decode cX6_blur 32 = .ok (.ldc2_w 254, 3) := by decide +kernel
theorem dX6_blur_35 : decode cX6_blur 35 = .ok (.invokestatic 86, 3) := by decide +kernel
theorem dX6_blur_38 : decode cX6_blur 38 = .ok (.ifCond .ne 8, 3) := by decide +kernel
theorem dX6_blur_41 : decode cX6_blur 41 = .ok (.aload_n 0, 1) := by decide +kernel
theorem dX6_blur_42 : decode cX6_blur 42 = .ok (.invokevirtual 100, 3) := by decide +kernel
theorem dX6_blur_45 : decode cX6_blur 45 = .ok (.ireturn, 1) := by decide +kernel
theorem dX6_blur_46 : decode cX6_blur 46 = .ok (.aload_n 0, 1) := by decide +kernel
theorem dX6_blur_47 : decode cX6_blur 47 = .ok (.getfield 7, 3) := by decide +kernel
theorem dX6_blur_50 : decode cX6_blur 50 = .ok (.bipush 34, 2) := by decide +kernel
theorem dX6_blur_52 : decode cX6_blur 52 = .ok (.iload_n 1, 1) := by decide +kernel
theorem dX6_blur_53 : decode cX6_blur 53 = .ok (.iadd, 1) := by decide +kernel
theorem dX6_blur_54 : decode cX6_blur 54 = .ok (.iaload, 1) := by decide +kernel
theorem dX6_blur_55 : decode cX6_blur 55 = .ok (.aload_n 0, 1) := by decide +kernel
theorem dX6_blur_56 : decode cX6_blur 56 = .ok (.getfield 7, 3) := by decide +kernel
theorem dX6_blur_59 : decode cX6_blur 59 = .ok (.bipush 49, 2) := by decide +kernel
theorem dX6_blur_61 : decode cX6_blur 61 = .ok (.iload_n 2, 1) := by decide +kernel
theorem dX6_blur_62 : decode cX6_blur 62 = .ok (.iadd, 1) := by decide +kernel
theorem dX6_blur_63 : decode cX6_blur 63 = .ok (.iaload, 1) := by decide +kernel
theorem dX6_blur_64 : decode cX6_blur 64 = .ok (.aload_n 0, 1) := by decide +kernel
theorem dX6_blur_65 : decode cX6_blur 65 = .ok (.getfield 7, 3) := by decide +kernel
theorem dX6_blur_68 : decode cX6_blur 68 = .ok (.bipush 54, 2) := by decide +kernel
theorem dX6_blur_70 : decode cX6_blur 70 = .ok (.iload_n 2, 1) := by decide +kernel
theorem dX6_blur_71 : decode cX6_blur 71 = .ok (.iadd, 1) := by decide +kernel
theorem dX6_blur_72 : decode cX6_blur 72 = .ok (.iaload, 1) := by decide +kernel
theorem dX6_blur_73 : decode cX6_blur 73 = .ok (.invokestatic 72, 3) := by decide +kernel
theorem dX6_blur_76 : decode cX6_blur 76 = .ok (.invokestatic 75, 3) := by decide +kernel
theorem dX6_blur_79 : decode cX6_blur 79 = .ok (.istore 5, 2) := by decide +kernel
theorem dX6_blur_81 : decode cX6_blur 81 = .ok (.iconst 0, 1) := by decide +kernel
theorem dX6_blur_82 : decode cX6_blur 82 = .ok (.istore 6, 2) := by decide +kernel
theorem dX6_blur_84 : decode cX6_blur 84 = .ok (.iconst (-1), 1) := by decide +kernel
theorem dX6_blur_85 : decode cX6_blur 85 = .ok (.istore 7, 2) := by decide +kernel
theorem dX6_blur_87 : decode cX6_blur 87 = .ok (.iconst (-1), 1) := by decide +kernel
theorem dX6_blur_88 : decode cX6_blur 88 = .ok (.istore 8, 2) := by decide +kernel
theorem dX6_blur_90 : decode cX6_blur 90 = .ok (.iconst 0, 1) := by decide +kernel
theorem dX6_blur_91 : decode cX6_blur 91 = .ok (.istore 9, 2) := by decide +kernel
theorem dX6_blur_93 : decode cX6_blur 93 = .ok (.iload 9, 2) := by decide +kernel
theorem dX6_blur_95 : decode cX6_blur 95 = .ok (.bipush 41, 2) := by decide +kernel
theorem dX6_blur_97 : decode cX6_blur 97 = .ok (.if_icmp .ge 102, 3) := by decide +kernel
theorem dX6_blur_100 : decode cX6_blur 100 = .ok (.iload 9, 2) := by decide +kernel
theorem dX6_blur_102 : decode cX6_blur 102 = .ok (.iload_n 3, 1) := by decide +kernel
theorem dX6_blur_103 : decode cX6_blur 103 = .ok (.iload 5, 2) := by decide +kernel
theorem dX6_blur_105 : decode cX6_blur 105 = .ok (.imul, 1) := by decide +kernel
theorem dX6_blur_106 : decode cX6_blur 106 = .ok (.isub, 1) := by decide +kernel
theorem dX6_blur_107 : decode cX6_blur 107 = .ok (.ifCond .ge 7, 3) := by decide +kernel
theorem dX6_blur_110 : decode cX6_blur 110 = .ok (.iconst 0, 1) := by decide +kernel
theorem dX6_blur_111 : decode cX6_blur 111 = .ok (.goto 10, 3) := by decide +kernel
theorem dX6_blur_114 : decode cX6_blur 114 = .ok (.iload 9, 2) := by decide +kernel
theorem dX6_blur_116 : decode cX6_blur 116 = .ok (.iload_n 3, 1) := by decide +kernel
theorem dX6_blur_117 : decode cX6_blur 117 = .ok (.iload 5, 2) := by decide +kernel
theorem dX6_blur_119 : decode cX6_blur 119 = .ok (.imul, 1) := by decide +kernel
theorem dX6_blur_120 : decode cX6_blur 120 = .ok (.isub, 1) := by decide +kernel
theorem dX6_blur_121 : decode cX6_blur 121 = .ok (.istore 10, 2) := by decide +kernel
theorem dX6_blur_123 : decode cX6_blur 123 = .ok (.iload 10, 2) := by decide +kernel
theorem dX6_blur_125 : decode cX6_blur 125 = .ok (.aload_n 0, 1) := by decide +kernel
theorem dX6_blur_126 : decode cX6_blur 126 = .ok (.getfield 7, 3) := by decide +kernel
theorem dX6_blur_129 : decode cX6_blur 129 = .ok (.bipush 25, 2) := by decide +kernel
theorem dX6_blur_131 : decode cX6_blur 131 = .ok (.iload_n 1, 1) := by decide +kernel
theorem dX6_blur_132 : decode cX6_blur 132 = .ok (.iadd, 1) := by decide +kernel
theorem dX6_blur_133 : decode cX6_blur 133 = .ok (.iaload, 1) := by decide +kernel
theorem dX6_blur_134 : decode cX6_blur 134 = .ok (.if_icmp .ne 7, 3) := by decide +kernel
theorem dX6_blur_137 : decode cX6_blur 137 = .ok (.iconst 1, 1) := by decide +kernel
theorem dX6_blur_138 : decode cX6_blur 138 = .ok (.goto 4, 3) := by decide +kernel
theorem dX6_blur_141 : decode cX6_blur 141 = .ok (.iconst 0, 1) := by decide +kernel
theorem dX6_blur_142 : decode cX6_blur 142 = .ok (.istore 11, 2) := by decide +kernel
theorem dX6_blur_144 : decode cX6_blur 144 = .ok (.iload 6, 2) := by decide +kernel
theorem dX6_blur_146 : decode cX6_blur 146 = .ok (.iload 11, 2) := by decide +kernel
theorem dX6_blur_148 : decode cX6_blur 148 = .ok (.ifCond .eq 7, 3) := by decide +kernel
theorem dX6_blur_151 : decode cX6_blur 151 = .ok (.iconst 1, 1) := by decide +kernel
theorem dX6_blur_152 : decode cX6_blur 152 = .ok (.goto 4, 3) := by decide +kernel
theorem dX6_blur_155 : decode cX6_blur 155 = .ok (.iconst 0, 1) := by decide +kernel
theorem dX6_blur_156 : decode cX6_blur 156 = .ok (.iadd, 1) := by decide +kernel
theorem dX6_blur_157 : decode cX6_blur 157 = .ok (.istore 6, 2) := by decide +kernel
theorem dX6_blur_159 : decode cX6_blur 159 = .ok (.iload 11, 2) := by decide +kernel
theorem dX6_blur_161 : decode cX6_blur 161 = .ok (.ifCond .eq 14, 3) := by decide +kernel
theorem dX6_blur_164 : decode cX6_blur 164 = .ok (.iload 7, 2) := by decide +kernel
theorem dX6_blur_166 : decode cX6_blur 166 = .ok (.iconst (-1), 1) := by decide +kernel
theorem dX6_blur_167 : decode cX6_blur 167 = .ok (.if_icmp .ne 8, 3) := by decide +kernel
theorem dX6_blur_170 : decode cX6_blur 170 = .ok (.iload 9, 2) := by decide +kernel
theorem dX6_blur_172 : decode cX6_blur 172 = .ok (.goto 5, 3) := by decide +kernel
theorem dX6_blur_175 : decode cX6_blur 175 = .ok (.iload 7, 2) := by decide +kernel
theorem dX6_blur_177 : decode cX6_blur 177 = .ok (.istore 7, 2) := by decide +kernel
theorem dX6_blur_179 : decode cX6_blur 179 = .ok (.iload 11, 2) := by decide +kernel
theorem dX6_blur_181 : decode cX6_blur 181 = .ok (.ifCond .eq 8, 3) := by decide +kernel
theorem dX6_blur_184 : decode cX6_blur 184 = .ok (.iload 9, 2) := by decide +kernel
theorem dX6_blur_186 : decode cX6_blur 186 = .ok (.goto 5, 3) := by decide +kernel
theorem dX6_blur_189 : decode cX6_blur 189 = .ok (.iload 8, 2) := by decide +kernel
theorem dX6_blur_191 : decode cX6_blur 191 = .ok (.istore 8, 2) := by decide +kernel
theorem dX6_blur_193 : decode cX6_blur 193 = .ok (.iinc 9 1, 3) := by decide +kernel
theorem dX6_blur_196 : decode cX6_blur 196 = .ok (.goto (-103), 3) := by decide +kernel
theorem dX6_blur_199 : decode cX6_blur 199 = .ok (.iload 4, 2) := by decide +kernel
theorem dX6_blur_201 : decode cX6_blur 201 = .ok (.ifCond .ne 8, 3) := by decide +kernel
theorem dX6_blur_204 : decode cX6_blur 204 = .ok (.iload 6, 2) := by decide +kernel
theorem dX6_blur_206 : decode cX6_blur 206 = .ok (.goto 16, 3) := by decide +kernel
theorem dX6_blur_209 : decode cX6_blur 209 = .ok (.iload 4, 2) := by decide +kernel
theorem dX6_blur_211 : decode cX6_blur 211 = .ok (.iconst 1, 1) := by decide +kernel
theorem dX6_blur_212 : decode cX6_blur 212 = .ok (.if_icmp .ne 8, 3) := by decide +kernel
theorem dX6_blur_215 : decode cX6_blur 215 = .ok (.iload 7, 2) := by decide +kernel
theorem dX6_blur_217 : decode cX6_blur 217 = .ok (.goto 5, 3) := by decide +kernel
theorem dX6_blur_220 : decode cX6_blur 220 = .ok (.iload 8, 2) := by decide +kernel
theorem dX6_blur_222 : decode cX6_blur 222 = .ok (.ireturn, 1) := by decide +kernel
theorem dX6_where_0 : decode cX6_where 0 = .ok (.aload_n 0, 1) := by decide +kernel
theorem dX6_where_1 : decode cX6_where 1 = .ok (.iload_n 1, 1) := by decide +kernel
theorem dX6_where_2 : decode cX6_where 2 = .ok (.invokevirtual 194, 3) := by decide +kernel
theorem dX6_where_5 : decode cX6_where 5 = .ok (.ifCond .eq 22, 3) := by decide +kernel
theorem dX6_where_8 : decode cX6_where 8 = .ok (.iload_n 2, 1) := by decide +kernel
theorem dX6_where_9 : decode cX6_where 9 = .ok (.invokestatic 94, 3) := by decide +kernel
theorem dX6_where_12 : decode cX6_where 12 = .ok (.ifCond .eq 15, 3) := by decide +kernel
theorem dX6_where_15 : decode cX6_where 15 = .ok (.iload_n 3, 1) := by decide +kernel
theorem dX6_where_16 : decode cX6_where 16 = .ok (.i2l, 1) := by decide +kernel
theorem dX6_where_17 : decode cX6_where 17 = .ok (.lconst 0, 1) := by decide +kernel
theorem dX6_where_18 : decode cX6_where 18 = .ok (.ldc2_w 219, 3) := by decide +kernel
theorem dX6_where_21 : decode cX6_where 21 = .ok (.invokestatic 86, 3) := by decide +kernel
theorem dX6_where_24 : decode cX6_where 24 = .ok (.ifCond .ne 8, 3) := by decide +kernel
theorem dX6_where_27 : decode cX6_where 27 = .ok (.aload_n 0, 1) := by decide +kernel
theorem dX6_where_28 : decode cX6_where 28 = .ok (.invokevirtual 100, 3) := by decide +kernel
theorem dX6_where_31 : decode cX6_where 31 = .ok (.ireturn, 1) := by decide +kernel
theorem dX6_where_32 : decode cX6_where 32 = .ok (.iconst 0, 1) := by decide +kernel
theorem dX6_where_33 : decode cX6_where 33 = .ok (.istore 4, 2) := by decide +kernel
theorem dX6_where_35 : decode cX6_where 35 = .ok (.iconst 0, 1) := by decide +kernel
theorem dX6_where_36 : decode cX6_where 36 = .ok (.istore 5, 2) := by decide +kernel
theorem dX6_where_38 : decode cX6_where 38 = .ok (.iload 5, 2) := by decide +kernel
theorem dX6_where_40 : decode cX6_where 40 = .ok (.aload_n 0, 1) := by decide +kernel
theorem dX6_where_41 : decode cX6_where 41 = .ok (.getfield 7, 3) := by decide +kernel
theorem dX6_where_44 : decode cX6_where 44 = .ok (.bipush 33, 2) := by decide +kernel
theorem dX6_where_46 : decode cX6_where 46 = .ok (.iaload, 1) := by decide +kernel
theorem dX6_where_47 : decode cX6_where 47 = .ok (.if_icmp .ge 59, 3) := by decide +kernel
theorem dX6_where_50 : decode cX6_where 50 = .ok (.aload_n 0, 1) := by decide +kernel
theorem dX6_where_51 : decode cX6_where 51 = .ok (.getfield 7, 3) := by decide +kernel
theorem dX6_where_54 : decode cX6_where 54 = .ok (.bipush 41, 2) := by decide +kernel
theorem dX6_where_56 : decode cX6_where 56 = .ok (.iload 5, 2) := by decide +kernel
theorem dX6_where_58 : decode cX6_where 58 = .ok (.iadd, 1) := by decide +kernel
theorem dX6_where_59 : decode cX6_where 59 = .ok (.iaload, 1) := by decide +kernel
theorem dX6_where_60 : decode cX6_where 60 = .ok (.iload_n 2, 1) := by decide +kernel
theorem dX6_where_61 : decode cX6_where 61 = .ok (.if_icmp .ne 17, 3) := by decide +kernel
theorem dX6_where_64 : decode cX6_where 64 = .ok (.aload_n 0, 1) := by decide +kernel
theorem dX6_where_65 : decode cX6_where 65 = .ok (.aload_n 0, 1) := by decide +kernel
theorem dX6_where_66 : decode cX6_where 66 = .ok (.getfield 7, 3) := by decide +kernel
theorem dX6_where_69 : decode cX6_where 69 = .ok (.iload_n 1, 1) := by decide +kernel
theorem dX6_where_70 : decode cX6_where 70 = .ok (.iload 5, 2) := by decide +kernel
theorem dX6_where_72 : decode cX6_where 72 = .ok (.invokevirtual 64, 3) := by decide +kernel
theorem dX6_where_75 : decode cX6_where 75 = .ok (.goto 4, 3) := by decide +kernel
theorem dX6_where_78 : decode cX6_where 78 = .ok (.iconst 0, 1) := by decide +kernel
theorem dX6_where_79 : decode cX6_where 79 = .ok (.istore 6, 2) := by decide +kernel
theorem dX6_where_81 : decode cX6_where 81 = .ok (.iload 4, 2) := by decide +kernel
theorem dX6_where_83 : decode cX6_where 83 = .ok (.iload 6, 2) := by decide +kernel
theorem dX6_where_85 : decode cX6_where 85 = .ok (.iload_n 3, 1) := by decide +kernel
theorem dX6_where_86 : decode cX6_where 86 = .ok (.if_icmp .ne 10, 3) := by decide +kernel
theorem dX6_where_89 : decode cX6_where 89 = .ok (.iconst 1, 1) := by decide +kernel
theorem dX6_where_90 : decode cX6_where 90 = .ok (.iload 5, 2) := by decide +kernel
theorem dX6_where_92 : decode cX6_where 92 = .ok (.ishl, 1) := by decide +kernel
theorem dX6_where_93 : decode cX6_where 93 = .ok (.goto 4, 3) := by decide +kernel
theorem dX6_where_96 : decode cX6_where 96 = .ok (.iconst 0, 1) := by decide +kernel
theorem dX6_where_97 : decode cX6_where 97 = .ok (.ior, 1) := by decide +kernel
theorem dX6_where_98 : decode cX6_where 98 = .ok (.istore 4, 2) := by decide +kernel
theorem dX6_where_100 : decode cX6_where 100 = .ok (.iinc 5 1, 3) := by decide +kernel
theorem dX6_where_103 : decode cX6_where 103 = .ok (.goto (-65), 3) := by decide +kernel
theorem dX6_where_106 : decode cX6_where 106 = .ok (.iload 4, 2) := by decide +kernel
theorem dX6_where_108 : decode cX6_where 108 = .ok (.ireturn, 1) := by decide +kernel
theorem dX6_note_0 : decode cX6_note 0 = .ok (.aload_n 0, 1) := by decide +kernel
theorem dX6_note_1 : decode cX6_note 1 = .ok (.iload_n 1, 1) := by decide +kernel
theorem dX6_note_2 : decode cX6_note 2 = .ok (.invokevirtual 197, 3) := by decide +kernel
theorem dX6_note_5 : decode cX6_note 5 = .ok (.ifCond .eq 53, 3) := by decide +kernel
theorem dX6_note_8 : decode cX6_note 8 = .ok (.iload_n 2, 1) := by decide +kernel
theorem dX6_note_9 : decode cX6_note 9 = .ok (.i2l, 1) := by decide +kernel
theorem dX6_note_10 : decode cX6_note 10 = .ok (.lconst 0, 1) := by decide +kernel
theorem dX6_note_11 : decode cX6_note 11 = .ok (.ldc2_w 98, 3) := by decide +kernel
theorem dX6_note_14 : decode cX6_note 14 = .ok (.invokestatic 86, 3) := by decide +kernel
theorem dX6_note_17 : decode cX6_note 17 = .ok (.ifCond .eq 41, 3) := by decide +kernel
theorem dX6_note_20 : decode cX6_note 20 = .ok (.iload_n 3, 1) := by decide +kernel
theorem dX6_note_21 : decode cX6_note 21 = .ok (.i2l, 1) := by decide +kernel
theorem dX6_note_22 : decode cX6_note 22 = .ok (.lconst 0, 1) := by decide +kernel
theorem dX6_note_23 : decode cX6_note 23 = .ok (.ldc2_w 225, 3) := by decide +kernel
theorem dX6_note_26 : decode cX6_note 26 = .ok (.invokestatic 86, 3) := by decide +kernel
theorem dX6_note_29 : decode cX6_note 29 = .ok (.ifCond .eq 29, 3) := by decide +kernel
theorem dX6_note_32 : decode cX6_note 32 = .ok (.iload 4, 2) := by decide +kernel
theorem dX6_note_34 : decode cX6_note 34 = .ok (.i2l, 1) := by decide +kernel
theorem dX6_note_35 : decode cX6_note 35 = .ok (.lconst 0, 1) := by decide +kernel
theorem dX6_note_36 : decode cX6_note 36 = .ok (.ldc2_w 225, 3) := by decide +kernel
theorem dX6_note_39 : decode cX6_note 39 = .ok (.invokestatic 86, 3) := by decide +kernel
theorem dX6_note_42 : decode cX6_note 42 = .ok (.ifCond .eq 16, 3) := by decide +kernel
theorem dX6_note_45 : decode cX6_note 45 = .ok (.iload 5, 2) := by decide +kernel
theorem dX6_note_47 : decode cX6_note 47 = .ok (.i2l, 1) := by decide +kernel
theorem dX6_note_48 : decode cX6_note 48 = .ok (.lconst 0, 1) := by decide +kernel
theorem dX6_note_49 : decode cX6_note 49 = .ok (.ldc2_w 98, 3) := by decide +kernel
theorem dX6_note_52 : decode cX6_note 52 = .ok (.invokestatic 86, 3) := by decide +kernel
theorem dX6_note_55 : decode cX6_note 55 = .ok (.ifCond .ne 8, 3) := by decide +kernel
theorem dX6_note_58 : decode cX6_note 58 = .ok (.aload_n 0, 1) := by decide +kernel
theorem dX6_note_59 : decode cX6_note 59 = .ok (.invokevirtual 100, 3) := by decide +kernel
theorem dX6_note_62 : decode cX6_note 62 = .ok (.ireturn, 1) := by decide +kernel
theorem dX6_note_63 : decode cX6_note 63 = .ok (.aload_n 0, 1) := by decide +kernel
theorem dX6_note_64 : decode cX6_note 64 = .ok (.getfield 7, 3) := by decide +kernel
theorem dX6_note_67 : decode cX6_note 67 = .ok (.bipush 78, 2) := by decide +kernel
theorem dX6_note_69 : decode cX6_note 69 = .ok (.iaload, 1) := by decide +kernel
theorem dX6_note_70 : decode cX6_note 70 = .ok (.bipush 6, 2) := by decide +kernel
theorem dX6_note_72 : decode cX6_note 72 = .ok (.if_icmp .ne 11, 3) := by decide +kernel
theorem dX6_note_75 : decode cX6_note 75 = .ok (.aload_n 0, 1) := by decide +kernel
theorem dX6_note_76 : decode cX6_note 76 = .ok (.iconst 2, 1) := by decide +kernel
theorem dX6_note_77 : decode cX6_note 77 = .ok (.bipush (-4), 2) := by decide +kernel
theorem dX6_note_79 : decode cX6_note 79 = .ok (.invokevirtual 52, 3) := by decide +kernel
theorem dX6_note_82 : decode cX6_note 82 = .ok (.ireturn, 1) := by decide +kernel
theorem dX6_note_83 : decode cX6_note 83 = .ok (.bipush 79, 2) := by decide +kernel
theorem dX6_note_85 : decode cX6_note 85 = .ok (.iconst 5, 1) := by decide +kernel
theorem dX6_note_86 : decode cX6_note 86 = .ok (.aload_n 0, 1) := by decide +kernel
theorem dX6_note_87 : decode cX6_note 87 = .ok (.getfield 7, 3) := by decide +kernel
theorem dX6_note_90 : decode cX6_note 90 = .ok (.bipush 78, 2) := by decide +kernel
theorem dX6_note_92 : decode cX6_note 92 = .ok (.iaload, 1) := by decide +kernel
theorem dX6_note_93 : decode cX6_note 93 = .ok (.imul, 1) := by decide +kernel
theorem dX6_note_94 : decode cX6_note 94 = .ok (.iadd, 1) := by decide +kernel
theorem dX6_note_95 : decode cX6_note 95 = .ok (.istore 6, 2) := by decide +kernel
theorem dX6_note_97 : decode cX6_note 97 = .ok (.aload_n 0, 1) := by decide +kernel
theorem dX6_note_98 : decode cX6_note 98 = .ok (.getfield 7, 3) := by decide +kernel
theorem dX6_note_101 : decode cX6_note 101 = .ok (.iload 6, 2) := by decide +kernel
theorem dX6_note_103 : decode cX6_note 103 = .ok (.iload_n 1, 1) := by decide +kernel
theorem dX6_note_104 : decode cX6_note 104 = .ok (.iastore, 1) := by decide +kernel
theorem dX6_note_105 : decode cX6_note 105 = .ok (.aload_n 0, 1) := by decide +kernel
theorem dX6_note_106 : decode cX6_note 106 = .ok (.getfield 7, 3) := by decide +kernel
theorem dX6_note_109 : decode cX6_note 109 = .ok (.iload 6, 2) := by decide +kernel
theorem dX6_note_111 : decode cX6_note 111 = .ok (.iconst 1, 1) := by decide +kernel
theorem dX6_note_112 : decode cX6_note 112 = .ok (.iadd, 1) := by decide +kernel
theorem dX6_note_113 : decode cX6_note 113 = .ok (.iload_n 2, 1) := by decide +kernel
theorem dX6_note_114 : decode cX6_note 114 = .ok (.iastore, 1) := by decide +kernel
theorem dX6_note_115 : decode cX6_note 115 = .ok (.aload_n 0, 1) := by decide +kernel
theorem dX6_note_116 : decode cX6_note 116 = .ok (.getfield 7, 3) := by decide +kernel
theorem dX6_note_119 : decode cX6_note 119 = .ok (.iload 6, 2) := by decide +kernel
theorem dX6_note_121 : decode cX6_note 121 = .ok (.iconst 2, 1) := by decide +kernel
theorem dX6_note_122 : decode cX6_note 122 = .ok (.iadd, 1) := by decide +kernel
theorem dX6_note_123 : decode cX6_note 123 = .ok (.iload_n 3, 1) := by decide +kernel
theorem dX6_note_124 : decode cX6_note 124 = .ok (.iastore, 1) := by decide +kernel
theorem dX6_note_125 : decode cX6_note 125 = .ok (.aload_n 0, 1) := by decide +kernel
theorem dX6_note_126 : decode cX6_note 126 = .ok (.getfield 7, 3) := by decide +kernel
theorem dX6_note_129 : decode cX6_note 129 = .ok (.iload 6, 2) := by decide +kernel
theorem dX6_note_131 : decode cX6_note 131 = .ok (.iconst 3, 1) := by decide +kernel
theorem dX6_note_132 : decode cX6_note 132 = .ok (.iadd, 1) := by decide +kernel
theorem dX6_note_133 : decode cX6_note 133 = .ok (.iload 4, 2) := by decide +kernel
theorem dX6_note_135 : decode cX6_note 135 = .ok (.iastore, 1) := by decide +kernel
theorem dX6_note_136 : decode cX6_note 136 = .ok (.aload_n 0, 1) := by decide +kernel
theorem dX6_note_137 : decode cX6_note 137 = .ok (.getfield 7, 3) := by decide +kernel
theorem dX6_note_140 : decode cX6_note 140 = .ok (.iload 6, 2) := by decide +kernel
theorem dX6_note_142 : decode cX6_note 142 = .ok (.iconst 4, 1) := by decide +kernel
theorem dX6_note_143 : decode cX6_note 143 = .ok (.iadd, 1) := by decide +kernel
theorem dX6_note_144 : decode cX6_note 144 = .ok (.iload 5, 2) := by decide +kernel
theorem dX6_note_146 : decode cX6_note 146 = .ok (.iastore, 1) := by decide +kernel
theorem dX6_note_147 : decode cX6_note 147 = .ok (.aload_n 0, 1) := by decide +kernel
theorem dX6_note_148 : decode cX6_note 148 = .ok (.getfield 7, 3) := by decide +kernel
theorem dX6_note_151 : decode cX6_note 151 = .ok (.bipush 78, 2) := by decide +kernel
theorem dX6_note_153 : decode cX6_note 153 = .ok (.dup2, 1) := by decide +kernel
theorem dX6_note_154 : decode cX6_note 154 = .ok (.iaload, 1) := by decide +kernel
theorem dX6_note_155 : decode cX6_note 155 = .ok (.iconst 1, 1) := by decide +kernel
theorem dX6_note_156 : decode cX6_note 156 = .ok (.iadd, 1) := by decide +kernel
theorem dX6_note_157 : decode cX6_note 157 = .ok (.iastore, 1) := by decide +kernel
theorem dX6_note_158 : decode cX6_note 158 = .ok (.aload_n 0, 1) := by decide +kernel
theorem dX6_note_159 : decode cX6_note 159 = .ok (.getfield 7, 3) := by decide +kernel
theorem dX6_note_162 : decode cX6_note 162 = .ok (.bipush 78, 2) := by decide +kernel
theorem dX6_note_164 : decode cX6_note 164 = .ok (.iaload, 1) := by decide +kernel
theorem dX6_note_165 : decode cX6_note 165 = .ok (.ireturn, 1) := by decide +kernel
theorem dX6_mark_0 : decode cX6_mark 0 = .ok (.aload_n 0, 1) := by decide +kernel
theorem dX6_mark_1 : decode cX6_mark 1 = .ok (.iload_n 1, 1) := by decide +kernel
theorem dX6_mark_2 : decode cX6_mark 2 = .ok (.invokevirtual 194, 3) := by decide +kernel
theorem dX6_mark_5 : decode cX6_mark 5 = .ok (.ifCond .eq 40, 3) := by decide +kernel
theorem dX6_mark_8 : decode cX6_mark 8 = .ok (.iload_n 2, 1) := by decide +kernel
theorem dX6_mark_9 : decode cX6_mark 9 = .ok (.i2l, 1) := by decide +kernel
theorem dX6_mark_10 : decode cX6_mark 10 = .ok (.lconst 0, 1) := by decide +kernel
theorem dX6_mark_11 : decode cX6_mark 11 = .ok (.ldc2_w 98, 3) := by decide +kernel
theorem dX6_mark_14 : decode cX6_mark 14 = .ok (.invokestatic 86, 3) := by decide +kernel
theorem dX6_mark_17 : decode cX6_mark 17 = .ok (.ifCond .eq 28, 3) := by decide +kernel
theorem dX6_mark_20 : decode cX6_mark 20 = .ok (.iload_n 3, 1) := by decide +kernel
theorem dX6_mark_21 : decode cX6_mark 21 = .ok (.i2l, 1) := by decide +kernel
theorem dX6_mark_22 : decode cX6_mark 22 = .ok (.lconst 0, 1) := by decide +kernel
theorem dX6_mark_23 : decode cX6_mark 23 = .ok (.ldc2_w 225, 3) := by decide +kernel
theorem dX6_mark_26 : decode cX6_mark 26 = .ok (.invokestatic 86, 3) := by decide +kernel
theorem dX6_mark_29 : decode cX6_mark 29 = .ok (.ifCond .eq 16, 3) := by decide +kernel
theorem dX6_mark_32 : decode cX6_mark 32 = .ok (.iload 4, 2) := by decide +kernel
theorem dX6_mark_34 : decode cX6_mark 34 = .ok (.i2l, 1) := by decide +kernel
theorem dX6_mark_35 : decode cX6_mark 35 = .ok (.lconst 0, 1) := by decide +kernel
theorem dX6_mark_36 : decode cX6_mark 36 = .ok (.ldc2_w 219, 3) := by decide +kernel
theorem dX6_mark_39 : decode cX6_mark 39 = .ok (.invokestatic 86, 3) := by decide +kernel
theorem dX6_mark_42 : decode cX6_mark 42 = .ok (.ifCond .ne 8, 3) := by decide +kernel
theorem dX6_mark_45 : decode cX6_mark 45 = .ok (.aload_n 0, 1) := by decide +kernel
theorem dX6_mark_46 : decode cX6_mark 46 = .ok (.invokevirtual 100, 3) := by decide +kernel
theorem dX6_mark_49 : decode cX6_mark 49 = .ok (.ireturn, 1) := by decide +kernel
theorem dX6_mark_50 : decode cX6_mark 50 = .ok (.aload_n 0, 1) := by decide +kernel
theorem dX6_mark_51 : decode cX6_mark 51 = .ok (.getfield 7, 3) := by decide +kernel
theorem dX6_mark_54 : decode cX6_mark 54 = .ok (.bipush 109, 2) := by decide +kernel
theorem dX6_mark_56 : decode cX6_mark 56 = .ok (.iaload, 1) := by decide +kernel
theorem dX6_mark_57 : decode cX6_mark 57 = .ok (.bipush 6, 2) := by decide +kernel
theorem dX6_mark_59 : decode cX6_mark 59 = .ok (.if_icmp .ne 11, 3) := by decide +kernel
theorem dX6_mark_62 : decode cX6_mark 62 = .ok (.aload_n 0, 1) := by decide +kernel
theorem dX6_mark_63 : decode cX6_mark 63 = .ok (.iconst 2, 1) := by decide +kernel
theorem dX6_mark_64 : decode cX6_mark 64 = .ok (.bipush (-4), 2) := by decide +kernel
theorem dX6_mark_66 : decode cX6_mark 66 = .ok (.invokevirtual 52, 3) := by decide +kernel
theorem dX6_mark_69 : decode cX6_mark 69 = .ok (.ireturn, 1) := by decide +kernel
theorem dX6_mark_70 : decode cX6_mark 70 = .ok (.bipush 110, 2) := by decide +kernel
theorem dX6_mark_72 : decode cX6_mark 72 = .ok (.iconst 4, 1) := by decide +kernel
theorem dX6_mark_73 : decode cX6_mark 73 = .ok (.aload_n 0, 1) := by decide +kernel
theorem dX6_mark_74 : decode cX6_mark 74 = .ok (.getfield 7, 3) := by decide +kernel
theorem dX6_mark_77 : decode cX6_mark 77 = .ok (.bipush 109, 2) := by decide +kernel
theorem dX6_mark_79 : decode cX6_mark 79 = .ok (.iaload, 1) := by decide +kernel
theorem dX6_mark_80 : decode cX6_mark 80 = .ok (.imul, 1) := by decide +kernel
theorem dX6_mark_81 : decode cX6_mark 81 = .ok (.iadd, 1) := by decide +kernel
theorem dX6_mark_82 : decode cX6_mark 82 = .ok (.istore 5, 2) := by decide +kernel
theorem dX6_mark_84 : decode cX6_mark 84 = .ok (.aload_n 0, 1) := by decide +kernel
theorem dX6_mark_85 : decode cX6_mark 85 = .ok (.getfield 7, 3) := by decide +kernel
theorem dX6_mark_88 : decode cX6_mark 88 = .ok (.iload 5, 2) := by decide +kernel
theorem dX6_mark_90 : decode cX6_mark 90 = .ok (.iload_n 1, 1) := by decide +kernel
theorem dX6_mark_91 : decode cX6_mark 91 = .ok (.iastore, 1) := by decide +kernel
theorem dX6_mark_92 : decode cX6_mark 92 = .ok (.aload_n 0, 1) := by decide +kernel
theorem dX6_mark_93 : decode cX6_mark 93 = .ok (.getfield 7, 3) := by decide +kernel
theorem dX6_mark_96 : decode cX6_mark 96 = .ok (.iload 5, 2) := by decide +kernel
theorem dX6_mark_98 : decode cX6_mark 98 = .ok (.iconst 1, 1) := by decide +kernel
theorem dX6_mark_99 : decode cX6_mark 99 = .ok (.iadd, 1) := by decide +kernel
theorem dX6_mark_100 : decode cX6_mark 100 = .ok (.iload_n 2, 1) := by decide +kernel
theorem dX6_mark_101 : decode cX6_mark 101 = .ok (.iastore, 1) := by decide +kernel
theorem dX6_mark_102 : decode cX6_mark 102 = .ok (.aload_n 0, 1) := by decide +kernel
theorem dX6_mark_103 : decode cX6_mark 103 = .ok (.getfield 7, 3) := by decide +kernel
theorem dX6_mark_106 : decode cX6_mark 106 = .ok (.iload 5, 2) := by decide +kernel
theorem dX6_mark_108 : decode cX6_mark 108 = .ok (.iconst 2, 1) := by decide +kernel
theorem dX6_mark_109 : decode cX6_mark 109 = .ok (.iadd, 1) := by decide +kernel
theorem dX6_mark_110 : decode cX6_mark 110 = .ok (.iload_n 3, 1) := by decide +kernel
theorem dX6_mark_111 : decode cX6_mark 111 = .ok (.iastore, 1) := by decide +kernel
theorem dX6_mark_112 : decode cX6_mark 112 = .ok (.aload_n 0, 1) := by decide +kernel
theorem dX6_mark_113 : decode cX6_mark 113 = .ok (.getfield 7, 3) := by decide +kernel
theorem dX6_mark_116 : decode cX6_mark 116 = .ok (.iload 5, 2) := by decide +kernel
theorem dX6_mark_118 : decode cX6_mark 118 = .ok (.iconst 3, 1) := by decide +kernel
theorem dX6_mark_119 : decode cX6_mark 119 = .ok (.iadd, 1) := by decide +kernel
theorem dX6_mark_120 : decode cX6_mark 120 = .ok (.iload 4, 2) := by decide +kernel
theorem dX6_mark_122 : decode cX6_mark 122 = .ok (.iastore, 1) := by decide +kernel
theorem dX6_mark_123 : decode cX6_mark 123 = .ok (.aload_n 0, 1) := by decide +kernel
theorem dX6_mark_124 : decode cX6_mark 124 = .ok (.getfield 7, 3) := by decide +kernel
theorem dX6_mark_127 : decode cX6_mark 127 = .ok (.bipush 109, 2) := by decide +kernel
theorem dX6_mark_129 : decode cX6_mark 129 = .ok (.dup2, 1) := by decide +kernel
theorem dX6_mark_130 : decode cX6_mark 130 = .ok (.iaload, 1) := by decide +kernel
theorem dX6_mark_131 : decode cX6_mark 131 = .ok (.iconst 1, 1) := by decide +kernel
theorem dX6_mark_132 : decode cX6_mark 132 = .ok (.iadd, 1) := by decide +kernel
theorem dX6_mark_133 : decode cX6_mark 133 = .ok (.iastore, 1) := by decide +kernel
theorem dX6_mark_134 : decode cX6_mark 134 = .ok (.aload_n 0, 1) := by decide +kernel
theorem dX6_mark_135 : decode cX6_mark 135 = .ok (.getfield 7, 3) := by decide +kernel
theorem dX6_mark_138 : decode cX6_mark 138 = .ok (.bipush 109, 2) := by decide +kernel
theorem dX6_mark_140 : decode cX6_mark 140 = .ok (.iaload, 1) := by decide +kernel
theorem dX6_mark_141 : decode cX6_mark 141 = .ok (.ireturn, 1) := by decide +kernel
theorem dX6_forget_0 : decode cX6_forget 0 = .ok (.iload_n 1, 1) := by decide +kernel
theorem dX6_forget_1 : decode cX6_forget 1 = .ok (.i2l, 1) := by decide +kernel
theorem dX6_forget_2 : decode cX6_forget 2 = .ok (.lconst 0, 1) := by decide +kernel
theorem dX6_forget_3 : decode cX6_forget 3 = .ok (.ldc2_w 254, 3) := by decide +kernel
theorem dX6_forget_6 : decode cX6_forget 6 = .ok (.invokestatic 86, 3) := by decide +kernel
theorem dX6_forget_9 : decode cX6_forget 9 = .ok (.ifCond .ne 8, 3) := by decide +kernel
theorem dX6_forget_12 : decode cX6_forget 12 = .ok (.aload_n 0, 1) := by decide +kernel
theorem dX6_forget_13 : decode cX6_forget 13 = .ok (.invokevirtual 100, 3) := by decide +kernel
theorem dX6_forget_16 : decode cX6_forget 16 = .ok (.ireturn, 1) := by decide +kernel
theorem dX6_forget_17 : decode cX6_forget 17 = .ok (.iload_n 1, 1) := by decide +kernel
theorem dX6_forget_18 : decode cX6_forget 18 = .ok (.ifCond .ne 8, 3) := by decide +kernel
theorem dX6_forget_21 : decode cX6_forget 21 = .ok (.bipush 59, 2) := by decide +kernel
theorem dX6_forget_23 : decode cX6_forget 23 = .ok (.goto 15, 3) := by decide +kernel
theorem dX6_forget_26 : decode cX6_forget 26 = .ok (.iload_n 1, 1) := by decide +kernel
theorem dX6_forget_27 : decode cX6_forget 27 = .ok (.iconst 1, 1) := by decide +kernel
theorem dX6_forget_28 : decode cX6_forget 28 = .ok (.if_icmp .ne 8, 3) := by decide +kernel
theorem dX6_forget_31 : decode cX6_forget 31 = .ok (.bipush 78, 2) := by decide +kernel
theorem dX6_forget_33 : decode cX6_forget 33 = .ok (.goto 5, 3) := by decide +kernel
theorem dX6_forget_36 : decode cX6_forget 36 = .ok (.bipush 109, 2) := by decide +kernel
theorem dX6_forget_38 : decode cX6_forget 38 = .ok (.istore_n 2, 1) := by decide +kernel
theorem dX6_forget_39 : decode cX6_forget 39 = .ok (.aload_n 0, 1) := by decide +kernel
theorem dX6_forget_40 : decode cX6_forget 40 = .ok (.getfield 7, 3) := by decide +kernel
theorem dX6_forget_43 : decode cX6_forget 43 = .ok (.iload_n 2, 1) := by decide +kernel
theorem dX6_forget_44 : decode cX6_forget 44 = .ok (.iaload, 1) := by decide +kernel
theorem dX6_forget_45 : decode cX6_forget 45 = .ok (.istore_n 3, 1) := by decide +kernel
theorem dX6_forget_46 : decode cX6_forget 46 = .ok (.aload_n 0, 1) := by decide +kernel
theorem dX6_forget_47 : decode cX6_forget 47 = .ok (.getfield 7, 3) := by decide +kernel
theorem dX6_forget_50 : decode cX6_forget 50 = .ok (.iload_n 2, 1) := by decide +kernel
theorem dX6_forget_51 : decode cX6_forget 51 = .ok (.iconst 0, 1) := by decide +kernel
theorem dX6_forget_52 : decode cX6_forget 52 = .ok (.iastore, 1) := by decide +kernel
theorem dX6_forget_53 : decode cX6_forget 53 = .ok (.iload_n 3, 1) := by decide +kernel
theorem dX6_forget_54 : decode cX6_forget 54 = .ok (.ireturn, 1) := by decide +kernel
theorem dX6_kindsOf_0 : decode cX6_kindsOf 0 = .ok (.iconst 0, 1) := by decide +kernel
theorem dX6_kindsOf_1 : decode cX6_kindsOf 1 = .ok (.istore_n 2, 1) := by decide +kernel
theorem dX6_kindsOf_2 : decode cX6_kindsOf 2 = .ok (.iconst 0, 1) := by decide +kernel
theorem dX6_kindsOf_3 : decode cX6_kindsOf 3 = .ok (.istore_n 3, 1) := by decide +kernel
theorem dX6_kindsOf_4 : decode cX6_kindsOf 4 = .ok (.iload_n 3, 1) := by decide +kernel
theorem dX6_kindsOf_5 : decode cX6_kindsOf 5 = .ok (.bipush 6, 2) := by decide +kernel
theorem dX6_kindsOf_7 : decode cX6_kindsOf 7 = .ok (.if_icmp .ge 120, 3) := by decide +kernel
theorem dX6_kindsOf_10 : decode cX6_kindsOf 10 = .ok (.iconst 1, 1) := by decide +kernel
theorem dX6_kindsOf_11 : decode cX6_kindsOf 11 = .ok (.istore 4, 2) := by decide +kernel
theorem dX6_kindsOf_13 : decode cX6_kindsOf 13 = .ok (.bipush 79, 2) := by decide +kernel
theorem dX6_kindsOf_15 : decode cX6_kindsOf 15 = .ok (.istore 5, 2) := by decide +kernel
theorem dX6_kindsOf_17 : decode cX6_kindsOf 17 = .ok (.iload 5, 2) := by decide +kernel
theorem dX6_kindsOf_19 : decode cX6_kindsOf 19 = .ok (.bipush 79, 2) := by decide +kernel
theorem dX6_kindsOf_21 : decode cX6_kindsOf 21 = .ok (.iconst 5, 1) := by decide +kernel
theorem dX6_kindsOf_22 : decode cX6_kindsOf 22 = .ok (.aload_n 0, 1) := by decide +kernel
theorem dX6_kindsOf_23 : decode cX6_kindsOf 23 = .ok (.getfield 7, 3) := by decide +kernel
theorem dX6_kindsOf_26 : decode cX6_kindsOf 26 = .ok (.bipush 78, 2) := by decide +kernel
theorem dX6_kindsOf_28 : decode cX6_kindsOf 28 = .ok (.iaload, 1) := by decide +kernel
theorem dX6_kindsOf_29 : decode cX6_kindsOf 29 = .ok (.imul, 1) := by decide +kernel
theorem dX6_kindsOf_30 : decode cX6_kindsOf 30 = .ok (.iadd, 1) := by decide +kernel
theorem dX6_kindsOf_31 : decode cX6_kindsOf 31 = .ok (.if_icmp .ge 75, 3) := by decide +kernel
theorem dX6_kindsOf_34 : decode cX6_kindsOf 34 = .ok (.iload 4, 2) := by decide +kernel
theorem dX6_kindsOf_36 : decode cX6_kindsOf 36 = .ok (.ifCond .eq 61, 3) := by decide +kernel
theorem dX6_kindsOf_39 : decode cX6_kindsOf 39 = .ok (.aload_n 0, 1) := by decide +kernel
theorem dX6_kindsOf_40 : decode cX6_kindsOf 40 = .ok (.getfield 7, 3) := by decide +kernel
theorem dX6_kindsOf_43 : decode cX6_kindsOf 43 = .ok (.iload 5, 2) := by decide +kernel
theorem dX6_kindsOf_45 : decode cX6_kindsOf 45 = .ok (.iaload, 1) := by decide +kernel
theorem dX6_kindsOf_46 : decode cX6_kindsOf 46 = .ok (.iload_n 1, 1) := by decide +kernel
theorem dX6_kindsOf_47 : decode cX6_kindsOf 47 = .ok (.if_icmp .ne 46, 3) := by decide +kernel
theorem dX6_kindsOf_50 : decode cX6_kindsOf 50 = .ok (.iload_n 3, 1) := by decide +kernel
theorem dX6_kindsOf_51 : decode cX6_kindsOf 51 = .ok (.aload_n 0, 1) := by decide +kernel
theorem dX6_kindsOf_52 : decode cX6_kindsOf 52 = .ok (.getfield 7, 3) := by decide +kernel
theorem dX6_kindsOf_55 : decode cX6_kindsOf 55 = .ok (.iload 5, 2) := by decide +kernel
theorem dX6_kindsOf_57 : decode cX6_kindsOf 57 = .ok (.iconst 1, 1) := by decide +kernel
theorem dX6_kindsOf_58 : decode cX6_kindsOf 58 = .ok (.iadd, 1) := by decide +kernel
theorem dX6_kindsOf_59 : decode cX6_kindsOf 59 = .ok (.iaload, 1) := by decide +kernel
theorem dX6_kindsOf_60 : decode cX6_kindsOf 60 = .ok (.aload_n 0, 1) := by decide +kernel
theorem dX6_kindsOf_61 : decode cX6_kindsOf 61 = .ok (.getfield 7, 3) := by decide +kernel
theorem dX6_kindsOf_64 : decode cX6_kindsOf 64 = .ok (.iload 5, 2) := by decide +kernel
theorem dX6_kindsOf_66 : decode cX6_kindsOf 66 = .ok (.iconst 3, 1) := by decide +kernel
theorem dX6_kindsOf_67 : decode cX6_kindsOf 67 = .ok (.iadd, 1) := by decide +kernel
theorem dX6_kindsOf_68 : decode cX6_kindsOf 68 = .ok (.iaload, 1) := by decide +kernel
theorem dX6_kindsOf_69 : decode cX6_kindsOf 69 = .ok (.aload_n 0, 1) := by decide +kernel
theorem dX6_kindsOf_70 : decode cX6_kindsOf 70 = .ok (.getfield 7, 3) := by decide +kernel
theorem dX6_kindsOf_73 : decode cX6_kindsOf 73 = .ok (.iload 5, 2) := by decide +kernel
theorem dX6_kindsOf_75 : decode cX6_kindsOf 75 = .ok (.iconst 2, 1) := by decide +kernel
theorem dX6_kindsOf_76 : decode cX6_kindsOf 76 = .ok (.iadd, 1) := by decide +kernel
theorem dX6_kindsOf_77 : decode cX6_kindsOf 77 = .ok (.iaload, 1) := by decide +kernel
theorem dX6_kindsOf_78 : decode cX6_kindsOf 78 = .ok (.invokestatic 56, 3) := by decide +kernel
theorem dX6_kindsOf_81 : decode cX6_kindsOf 81 = .ok (.aload_n 0, 1) := by decide +kernel
theorem dX6_kindsOf_82 : decode cX6_kindsOf 82 = .ok (.getfield 7, 3) := by decide +kernel
theorem dX6_kindsOf_85 : decode cX6_kindsOf 85 = .ok (.iload 5, 2) := by decide +kernel
theorem dX6_kindsOf_87 : decode cX6_kindsOf 87 = .ok (.iconst 4, 1) := by decide +kernel
theorem dX6_kindsOf_88 : decode cX6_kindsOf 88 = .ok (.iadd, 1) := by decide +kernel
theorem dX6_kindsOf_89 : decode cX6_kindsOf 89 = .ok (.iaload, 1) := by decide +kernel
theorem dX6_kindsOf_90 : decode cX6_kindsOf 90 = .ok (.if_icmp .ne 7, 3) := by decide +kernel
theorem dX6_kindsOf_93 : decode cX6_kindsOf 93 = .ok (.iconst 1, 1) := by decide +kernel
theorem dX6_kindsOf_94 : decode cX6_kindsOf 94 = .ok (.goto 4, 3) := by decide +kernel
theorem dX6_kindsOf_97 : decode cX6_kindsOf 97 = .ok (.iconst 0, 1) := by decide +kernel
theorem dX6_kindsOf_98 : decode cX6_kindsOf 98 = .ok (.istore 4, 2) := by decide +kernel
theorem dX6_kindsOf_100 : decode cX6_kindsOf 100 = .ok (.iinc 5 5, 3) := by decide +kernel
theorem dX6_kindsOf_103 : decode cX6_kindsOf 103 = .ok (.goto (-86), 3) := by decide +kernel
theorem dX6_kindsOf_106 : decode cX6_kindsOf 106 = .ok (.iload_n 2, 1) := by decide +kernel
theorem dX6_kindsOf_107 : decode cX6_kindsOf 107 = .ok (.iload 4, 2) := by decide +kernel
theorem dX6_kindsOf_109 : decode cX6_kindsOf 109 = .ok (.ifCond .eq 9, 3) := by decide +kernel
theorem dX6_kindsOf_112 : decode cX6_kindsOf 112 = .ok (.iconst 1, 1) := by decide +kernel
theorem dX6_kindsOf_113 : decode cX6_kindsOf 113 = .ok (.iload_n 3, 1) := by decide +kernel
theorem dX6_kindsOf_114 : decode cX6_kindsOf 114 = .ok (.ishl, 1) := by decide +kernel
theorem dX6_kindsOf_115 : decode cX6_kindsOf 115 = .ok (.goto 4, 3) := by decide +kernel
theorem dX6_kindsOf_118 : decode cX6_kindsOf 118 = .ok (.iconst 0, 1) := by decide +kernel
theorem dX6_kindsOf_119 : decode cX6_kindsOf 119 = .ok (.ior, 1) := by decide +kernel
theorem dX6_kindsOf_120 : decode cX6_kindsOf 120 = .ok (.istore_n 2, 1) := by decide +kernel
theorem dX6_kindsOf_121 : decode cX6_kindsOf 121 = .ok (.iinc 3 1, 3) := by decide +kernel
theorem dX6_kindsOf_124 : decode cX6_kindsOf 124 = .ok (.goto (-120), 3) := by decide +kernel
theorem dX6_kindsOf_127 : decode cX6_kindsOf 127 = .ok (.iload_n 2, 1) := by decide +kernel
theorem dX6_kindsOf_128 : decode cX6_kindsOf 128 = .ok (.ireturn, 1) := by decide +kernel
theorem dX6_is_0 : decode cX6_is 0 = .ok (.aload_n 0, 1) := by decide +kernel
theorem dX6_is_1 : decode cX6_is 1 = .ok (.iload_n 1, 1) := by decide +kernel
theorem dX6_is_2 : decode cX6_is 2 = .ok (.invokevirtual 197, 3) := by decide +kernel
theorem dX6_is_5 : decode cX6_is 5 = .ok (.ifCond .eq 11, 3) := by decide +kernel
theorem dX6_is_8 : decode cX6_is 8 = .ok (.aload_n 0, 1) := by decide +kernel
theorem dX6_is_9 : decode cX6_is 9 = .ok (.iload_n 1, 1) := by decide +kernel
theorem dX6_is_10 : decode cX6_is 10 = .ok (.invokevirtual 256, 3) := by decide +kernel
theorem dX6_is_13 : decode cX6_is 13 = .ok (.goto 7, 3) := by decide +kernel
theorem dX6_is_16 : decode cX6_is 16 = .ok (.aload_n 0, 1) := by decide +kernel
theorem dX6_is_17 : decode cX6_is 17 = .ok (.invokevirtual 100, 3) := by decide +kernel
theorem dX6_is_20 : decode cX6_is 20 = .ok (.ireturn, 1) := by decide +kernel
theorem dX6_counts_0 : decode cX6_counts 0 = .ok (.aload_n 0, 1) := by decide +kernel
theorem dX6_counts_1 : decode cX6_counts 1 = .ok (.getfield 45, 3) := by decide +kernel
theorem dX6_counts_4 : decode cX6_counts 4 = .ok (.iload_n 1, 1) := by decide +kernel
theorem dX6_counts_5 : decode cX6_counts 5 = .ok (.dup2, 1) := by decide +kernel
theorem dX6_counts_6 : decode cX6_counts 6 = .ok (.iaload, 1) := by decide +kernel
theorem dX6_counts_7 : decode cX6_counts 7 = .ok (.iconst 1, 1) := by decide +kernel
theorem dX6_counts_8 : decode cX6_counts 8 = .ok (.iadd, 1) := by decide +kernel
theorem dX6_counts_9 : decode cX6_counts 9 = .ok (.iastore, 1) := by decide +kernel
theorem dX6_counts_10 : decode cX6_counts 10 = .ok (.aload_n 0, 1) := by decide +kernel
theorem dX6_counts_11 : decode cX6_counts 11 = .ok (.aload_n 0, 1) := by decide +kernel
theorem dX6_counts_12 : decode cX6_counts 12 = .ok (.getfield 45, 3) := by decide +kernel
theorem dX6_counts_15 : decode cX6_counts 15 = .ok (.iload_n 1, 1) := by decide +kernel
theorem dX6_counts_16 : decode cX6_counts 16 = .ok (.iaload, 1) := by decide +kernel
theorem dX6_counts_17 : decode cX6_counts 17 = .ok (.aload_n 0, 1) := by decide +kernel
theorem dX6_counts_18 : decode cX6_counts 18 = .ok (.getfield 259, 3) := by decide +kernel
theorem dX6_counts_21 : decode cX6_counts 21 = .ok (.if_icmp .le 12, 3) := by decide +kernel
theorem dX6_counts_24 : decode cX6_counts 24 = .ok (.aload_n 0, 1) := by decide +kernel
theorem dX6_counts_25 : decode cX6_counts 25 = .ok (.getfield 45, 3) := by decide +kernel
theorem dX6_counts_28 : decode cX6_counts 28 = .ok (.iload_n 1, 1) := by decide +kernel
theorem dX6_counts_29 : decode cX6_counts 29 = .ok (.iaload, 1) := by decide +kernel
theorem dX6_counts_30 : decode cX6_counts 30 = .ok (.goto 7, 3) := by decide +kernel
theorem dX6_counts_33 : decode cX6_counts 33 = .ok (.aload_n 0, 1) := by decide +kernel
theorem dX6_counts_34 : decode cX6_counts 34 = .ok (.getfield 259, 3) := by decide +kernel
theorem dX6_counts_37 : decode cX6_counts 37 = .ok (.putfield 259, 3) := by decide +kernel
theorem dX6_counts_40 : decode cX6_counts 40 = .ok (.return_, 1) := by decide +kernel
theorem dX6_countsNone_0 : decode cX6_countsNone 0 = .ok (.aload_n 0, 1) := by decide +kernel
theorem dX6_countsNone_1 : decode cX6_countsNone 1 = .ok (.iconst 0, 1) := by decide +kernel
theorem dX6_countsNone_2 : decode cX6_countsNone 2 = .ok (.putfield 259, 3) := by decide +kernel
theorem dX6_countsNone_5 : decode cX6_countsNone 5 = .ok (.iconst 0, 1) := by decide +kernel
theorem dX6_countsNone_6 : decode cX6_countsNone 6 = .ok (.istore_n 1, 1) := by decide +kernel
theorem dX6_countsNone_7 : decode cX6_countsNone 7 = .ok (.iload_n 1, 1) := by decide +kernel
theorem dX6_countsNone_8 : decode cX6_countsNone 8 = .ok (.bipush 120, 2) := by decide +kernel
theorem dX6_countsNone_10 : decode cX6_countsNone 10 = .ok (.if_icmp .ge 16, 3) := by decide +kernel
theorem dX6_countsNone_13 : decode cX6_countsNone 13 = .ok (.aload_n 0, 1) := by decide +kernel
theorem dX6_countsNone_14 : decode cX6_countsNone 14 = .ok (.getfield 45, 3) := by decide +kernel
theorem dX6_countsNone_17 : decode cX6_countsNone 17 = .ok (.iload_n 1, 1) := by decide +kernel
theorem dX6_countsNone_18 : decode cX6_countsNone 18 = .ok (.iconst 0, 1) := by decide +kernel
theorem dX6_countsNone_19 : decode cX6_countsNone 19 = .ok (.iastore, 1) := by decide +kernel
theorem dX6_countsNone_20 : decode cX6_countsNone 20 = .ok (.iinc 1 1, 3) := by decide +kernel
theorem dX6_countsNone_23 : decode cX6_countsNone 23 = .ok (.goto (-16), 3) := by decide +kernel
theorem dX6_countsNone_26 : decode cX6_countsNone 26 = .ok (.return_, 1) := by decide +kernel
theorem dX6_look_0 : decode cX6_look 0 = .ok (.aload_n 0, 1) := by decide +kernel
theorem dX6_look_1 : decode cX6_look 1 = .ok (.iload_n 1, 1) := by decide +kernel
theorem dX6_look_2 : decode cX6_look 2 = .ok (.invokevirtual 197, 3) := by decide +kernel
theorem dX6_look_5 : decode cX6_look 5 = .ok (.ifCond .ne 8, 3) := by decide +kernel
theorem dX6_look_8 : decode cX6_look 8 = .ok (.aload_n 0, 1) := by decide +kernel
theorem dX6_look_9 : decode cX6_look 9 = .ok (.invokevirtual 100, 3) := by decide +kernel
theorem dX6_look_12 : decode cX6_look 12 = .ok (.ireturn, 1) := by decide +kernel
theorem dX6_look_13 : decode cX6_look 13 = .ok (.aload_n 0, 1) := by decide +kernel
theorem dX6_look_14 : decode cX6_look 14 = .ok (.iload_n 1, 1) := by decide +kernel
theorem dX6_look_15 : decode cX6_look 15 = .ok (.invokevirtual 256, 3) := by decide +kernel
theorem dX6_look_18 : decode cX6_look 18 = .ok (.istore_n 2, 1) := by decide +kernel
theorem dX6_look_19 : decode cX6_look 19 = .ok (.iconst (-1), 1) := by decide +kernel
theorem dX6_look_20 : decode cX6_look 20 = .ok (.istore_n 3, 1) := by decide +kernel
theorem dX6_look_21 : decode cX6_look 21 = .ok (.ldc 230, 2) := by decide +kernel
theorem dX6_look_23 : decode cX6_look 23 = .ok (.istore 4, 2) := by decide +kernel
theorem dX6_look_25 : decode cX6_look 25 = .ok (.iconst 0, 1) := by decide +kernel
theorem dX6_look_26 : decode cX6_look 26 = .ok (.istore 5, 2) := by decide +kernel
theorem dX6_look_28 : decode cX6_look 28 = .ok (.iload 5, 2) := by decide +kernel
theorem dX6_look_30 : decode cX6_look 30 = .ok (.bipush 21, 2) := by decide +kernel
theorem dX6_look_32 : decode cX6_look 32 = .ok (.if_icmp .ge 121, 3) := by decide +kernel
theorem dX6_look_35 : decode cX6_look 35 = .ok (.iload_n 2, 1) := by decide +kernel
theorem dX6_look_36 : decode cX6_look 36 = .ok (.ifCond .eq 117, 3) := by decide +kernel
theorem dX6_look_39 : decode cX6_look 39 = .ok (.iconst 0, 1) := by decide +kernel
theorem dX6_look_40 : decode cX6_look 40 = .ok (.istore 6, 2) := by decide +kernel
theorem dX6_look_42 : decode cX6_look 42 = .ok (.iload 6, 2) := by decide +kernel
theorem dX6_look_44 : decode cX6_look 44 = .ok (.iconst 2, 1) := by decide +kernel
theorem dX6_look_45 : decode cX6_look 45 = .ok (.if_icmp .ge 102, 3) := by decide +kernel
theorem dX6_look_48 : decode cX6_look 48 = .ok (.aload_n 0, 1) := by decide +kernel
theorem dX6_look_49 : decode cX6_look 49 = .ok (.invokevirtual 262, 3) := by decide +kernel
theorem dX6_look_52 : decode cX6_look 52 = .ok (.iconst 0, 1) := by decide +kernel
theorem dX6_look_53 : decode cX6_look 53 = .ok (.istore 7, 2) := by decide +kernel
theorem dX6_look_55 : decode cX6_look 55 = .ok (.iload 7, 2) := by decide +kernel
theorem dX6_look_57 : decode cX6_look 57 = .ok (.bipush 6, 2) := by decide +kernel
theorem dX6_look_59 : decode cX6_look 59 = .ok (.if_icmp .ge 40, 3) := by decide +kernel
theorem dX6_look_62 : decode cX6_look 62 = .ok (.iload_n 2, 1) := by decide +kernel
theorem dX6_look_63 : decode cX6_look 63 = .ok (.iload 7, 2) := by decide +kernel
theorem dX6_look_65 : decode cX6_look 65 = .ok (.invokestatic 265, 3) := by decide +kernel
theorem dX6_look_68 : decode cX6_look 68 = .ok (.ifCond .eq 25, 3) := by decide +kernel
theorem dX6_look_71 : decode cX6_look 71 = .ok (.aload_n 0, 1) := by decide +kernel
theorem dX6_look_72 : decode cX6_look 72 = .ok (.iload 7, 2) := by decide +kernel
theorem dX6_look_74 : decode cX6_look 74 = .ok (.aload_n 0, 1) := by decide +kernel
theorem dX6_look_75 : decode cX6_look 75 = .ok (.getfield 7, 3) := by decide +kernel
theorem dX6_look_78 : decode cX6_look 78 = .ok (.bipush 25, 2) := by decide +kernel
theorem dX6_look_80 : decode cX6_look 80 = .ok (.iload_n 1, 1) := by decide +kernel
theorem dX6_look_81 : decode cX6_look 81 = .ok (.iadd, 1) := by decide +kernel
theorem dX6_look_82 : decode cX6_look 82 = .ok (.iaload, 1) := by decide +kernel
theorem dX6_look_83 : decode cX6_look 83 = .ok (.iload 5, 2) := by decide +kernel
theorem dX6_look_85 : decode cX6_look 85 = .ok (.iload 6, 2) := by decide +kernel
theorem dX6_look_87 : decode cX6_look 87 = .ok (.invokestatic 56, 3) := by decide +kernel
theorem dX6_look_90 : decode cX6_look 90 = .ok (.invokevirtual 268, 3) := by decide +kernel
theorem dX6_look_93 : decode cX6_look 93 = .ok (.iinc 7 1, 3) := by decide +kernel
theorem dX6_look_96 : decode cX6_look 96 = .ok (.goto (-41), 3) := by decide +kernel
theorem dX6_look_99 : decode cX6_look 99 = .ok (.aload_n 0, 1) := by decide +kernel
theorem dX6_look_100 : decode cX6_look 100 = .ok (.getfield 259, 3) := by decide +kernel
theorem dX6_look_103 : decode cX6_look 103 = .ok (.iload 4, 2) := by decide +kernel
theorem dX6_look_105 : decode cX6_look 105 = .ok (.if_icmp .ge 14, 3) := by decide +kernel
theorem dX6_look_108 : decode cX6_look 108 = .ok (.bipush 100, 2) := by decide +kernel
theorem dX6_look_110 : decode cX6_look 110 = .ok (.iload 5, 2) := by decide +kernel
theorem dX6_look_112 : decode cX6_look 112 = .ok (.imul, 1) := by decide +kernel
theorem dX6_look_113 : decode cX6_look 113 = .ok (.iload 6, 2) := by decide +kernel
theorem dX6_look_115 : decode cX6_look 115 = .ok (.iadd, 1) := by decide +kernel
theorem dX6_look_116 : decode cX6_look 116 = .ok (.goto 4, 3) := by decide +kernel
theorem dX6_look_119 : decode cX6_look 119 = .ok (.iload_n 3, 1) := by decide +kernel
theorem dX6_look_120 : decode cX6_look 120 = .ok (.istore_n 3, 1) := by decide +kernel
theorem dX6_look_121 : decode cX6_look 121 = .ok (.aload_n 0, 1) := by decide +kernel
theorem dX6_look_122 : decode cX6_look 122 = .ok (.getfield 259, 3) := by decide +kernel
theorem dX6_look_125 : decode cX6_look 125 = .ok (.iload 4, 2) := by decide +kernel
theorem dX6_look_127 : decode cX6_look 127 = .ok (.if_icmp .ge 10, 3) := by decide +kernel
theorem dX6_look_130 : decode cX6_look 130 = .ok (.aload_n 0, 1) := by decide +kernel
theorem dX6_look_131 : decode cX6_look 131 = .ok (.getfield 259, 3) := by decide +kernel
theorem dX6_look_134 : decode cX6_look 134 = .ok (.goto 5, 3) := by decide +kernel
theorem dX6_look_137 : decode cX6_look 137 = .ok (.iload 4, 2) := by decide +kernel
theorem dX6_look_139 : decode cX6_look 139 = .ok (.istore 4, 2) := by decide +kernel
theorem dX6_look_141 : decode cX6_look 141 = .ok (.iinc 6 1, 3) := by decide +kernel
theorem dX6_look_144 : decode cX6_look 144 = .ok (.goto (-102), 3) := by decide +kernel
theorem dX6_look_147 : decode cX6_look 147 = .ok (.iinc 5 1, 3) := by decide +kernel
theorem dX6_look_150 : decode cX6_look 150 = .ok (.goto (-122), 3) := by decide +kernel
theorem dX6_look_153 : decode cX6_look 153 = .ok (.iload_n 3, 1) := by decide +kernel
theorem dX6_look_154 : decode cX6_look 154 = .ok (.ireturn, 1) := by decide +kernel
theorem dX6_kindsOfOne_0 : decode cX6_kindsOfOne 0 = .ok (.iconst 0, 1) := by decide +kernel
theorem dX6_kindsOfOne_1 : decode cX6_kindsOfOne 1 = .ok (.istore_n 2, 1) := by decide +kernel
theorem dX6_kindsOfOne_2 : decode cX6_kindsOfOne 2 = .ok (.iconst 0, 1) := by decide +kernel
theorem dX6_kindsOfOne_3 : decode cX6_kindsOfOne 3 = .ok (.istore_n 3, 1) := by decide +kernel
theorem dX6_kindsOfOne_4 : decode cX6_kindsOfOne 4 = .ok (.iload_n 3, 1) := by decide +kernel
theorem dX6_kindsOfOne_5 : decode cX6_kindsOfOne 5 = .ok (.bipush 6, 2) := by decide +kernel
theorem dX6_kindsOfOne_7 : decode cX6_kindsOfOne 7 = .ok (.if_icmp .ge 111, 3) := by decide +kernel
theorem dX6_kindsOfOne_10 : decode cX6_kindsOfOne 10 = .ok (.iconst 1, 1) := by decide +kernel
theorem dX6_kindsOfOne_11 : decode cX6_kindsOfOne 11 = .ok (.istore 4, 2) := by decide +kernel
theorem dX6_kindsOfOne_13 : decode cX6_kindsOfOne 13 = .ok (.bipush 110, 2) := by decide +kernel
theorem dX6_kindsOfOne_15 : decode cX6_kindsOfOne 15 = .ok (.istore 5, 2) := by decide +kernel
theorem dX6_kindsOfOne_17 : decode cX6_kindsOfOne 17 = .ok (.iload 5, 2) := by decide +kernel
theorem dX6_kindsOfOne_19 : decode cX6_kindsOfOne 19 = .ok (.bipush 110, 2) := by decide +kernel
theorem dX6_kindsOfOne_21 : decode cX6_kindsOfOne 21 = .ok (.iconst 4, 1) := by decide +kernel
theorem dX6_kindsOfOne_22 : decode cX6_kindsOfOne 22 = .ok (.aload_n 0, 1) := by decide +kernel
theorem dX6_kindsOfOne_23 : decode cX6_kindsOfOne 23 = .ok (.getfield 7, 3) := by decide +kernel
theorem dX6_kindsOfOne_26 : decode cX6_kindsOfOne 26 = .ok (.bipush 109, 2) := by decide +kernel
theorem dX6_kindsOfOne_28 : decode cX6_kindsOfOne 28 = .ok (.iaload, 1) := by decide +kernel
theorem dX6_kindsOfOne_29 : decode cX6_kindsOfOne 29 = .ok (.imul, 1) := by decide +kernel
theorem dX6_kindsOfOne_30 : decode cX6_kindsOfOne 30 = .ok (.iadd, 1) := by decide +kernel
theorem dX6_kindsOfOne_31 : decode cX6_kindsOfOne 31 = .ok (.if_icmp .ge 66, 3) := by decide +kernel
theorem dX6_kindsOfOne_34 : decode cX6_kindsOfOne 34 = .ok (.iload 4, 2) := by decide +kernel
theorem dX6_kindsOfOne_36 : decode cX6_kindsOfOne 36 = .ok (.ifCond .eq 52, 3) := by decide +kernel
theorem dX6_kindsOfOne_39 : decode cX6_kindsOfOne 39 = .ok (.aload_n 0, 1) := by decide +kernel
theorem dX6_kindsOfOne_40 : decode cX6_kindsOfOne 40 = .ok (.getfield 7, 3) := by decide +kernel
theorem dX6_kindsOfOne_43 : decode cX6_kindsOfOne 43 = .ok (.iload 5, 2) := by decide +kernel
theorem dX6_kindsOfOne_45 : decode cX6_kindsOfOne 45 = .ok (.iaload, 1) := by decide +kernel
theorem dX6_kindsOfOne_46 : decode cX6_kindsOfOne 46 = .ok (.iload_n 1, 1) := by decide +kernel
theorem dX6_kindsOfOne_47 : decode cX6_kindsOfOne 47 = .ok (.if_icmp .ne 37, 3) := by decide +kernel
theorem dX6_kindsOfOne_50 : decode cX6_kindsOfOne 50 = .ok (.iload_n 3, 1) := by decide +kernel
theorem dX6_kindsOfOne_51 : decode cX6_kindsOfOne 51 = .ok (.aload_n 0, 1) := by decide +kernel
theorem dX6_kindsOfOne_52 : decode cX6_kindsOfOne 52 = .ok (.getfield 7, 3) := by decide +kernel
theorem dX6_kindsOfOne_55 : decode cX6_kindsOfOne 55 = .ok (.iload 5, 2) := by decide +kernel
theorem dX6_kindsOfOne_57 : decode cX6_kindsOfOne 57 = .ok (.iconst 1, 1) := by decide +kernel
theorem dX6_kindsOfOne_58 : decode cX6_kindsOfOne 58 = .ok (.iadd, 1) := by decide +kernel
theorem dX6_kindsOfOne_59 : decode cX6_kindsOfOne 59 = .ok (.iaload, 1) := by decide +kernel
theorem dX6_kindsOfOne_60 : decode cX6_kindsOfOne 60 = .ok (.aload_n 0, 1) := by decide +kernel
theorem dX6_kindsOfOne_61 : decode cX6_kindsOfOne 61 = .ok (.getfield 7, 3) := by decide +kernel
theorem dX6_kindsOfOne_64 : decode cX6_kindsOfOne 64 = .ok (.iload 5, 2) := by decide +kernel
theorem dX6_kindsOfOne_66 : decode cX6_kindsOfOne 66 = .ok (.iconst 2, 1) := by decide +kernel
theorem dX6_kindsOfOne_67 : decode cX6_kindsOfOne 67 = .ok (.iadd, 1) := by decide +kernel
theorem dX6_kindsOfOne_68 : decode cX6_kindsOfOne 68 = .ok (.iaload, 1) := by decide +kernel
theorem dX6_kindsOfOne_69 : decode cX6_kindsOfOne 69 = .ok (.invokestatic 60, 3) := by decide +kernel
theorem dX6_kindsOfOne_72 : decode cX6_kindsOfOne 72 = .ok (.aload_n 0, 1) := by decide +kernel
theorem dX6_kindsOfOne_73 : decode cX6_kindsOfOne 73 = .ok (.getfield 7, 3) := by decide +kernel
theorem dX6_kindsOfOne_76 : decode cX6_kindsOfOne 76 = .ok (.iload 5, 2) := by decide +kernel
theorem dX6_kindsOfOne_78 : decode cX6_kindsOfOne 78 = .ok (.iconst 3, 1) := by decide +kernel
theorem dX6_kindsOfOne_79 : decode cX6_kindsOfOne 79 = .ok (.iadd, 1) := by decide +kernel
theorem dX6_kindsOfOne_80 : decode cX6_kindsOfOne 80 = .ok (.iaload, 1) := by decide +kernel
theorem dX6_kindsOfOne_81 : decode cX6_kindsOfOne 81 = .ok (.if_icmp .ne 7, 3) := by decide +kernel
theorem dX6_kindsOfOne_84 : decode cX6_kindsOfOne 84 = .ok (.iconst 1, 1) := by decide +kernel
theorem dX6_kindsOfOne_85 : decode cX6_kindsOfOne 85 = .ok (.goto 4, 3) := by decide +kernel
theorem dX6_kindsOfOne_88 : decode cX6_kindsOfOne 88 = .ok (.iconst 0, 1) := by decide +kernel
theorem dX6_kindsOfOne_89 : decode cX6_kindsOfOne 89 = .ok (.istore 4, 2) := by decide +kernel
theorem dX6_kindsOfOne_91 : decode cX6_kindsOfOne 91 = .ok (.iinc 5 4, 3) := by decide +kernel
theorem dX6_kindsOfOne_94 : decode cX6_kindsOfOne 94 = .ok (.goto (-77), 3) := by decide +kernel
theorem dX6_kindsOfOne_97 : decode cX6_kindsOfOne 97 = .ok (.iload_n 2, 1) := by decide +kernel
theorem dX6_kindsOfOne_98 : decode cX6_kindsOfOne 98 = .ok (.iload 4, 2) := by decide +kernel
theorem dX6_kindsOfOne_100 : decode cX6_kindsOfOne 100 = .ok (.ifCond .eq 9, 3) := by decide +kernel
theorem dX6_kindsOfOne_103 : decode cX6_kindsOfOne 103 = .ok (.iconst 1, 1) := by decide +kernel
theorem dX6_kindsOfOne_104 : decode cX6_kindsOfOne 104 = .ok (.iload_n 3, 1) := by decide +kernel
theorem dX6_kindsOfOne_105 : decode cX6_kindsOfOne 105 = .ok (.ishl, 1) := by decide +kernel
theorem dX6_kindsOfOne_106 : decode cX6_kindsOfOne 106 = .ok (.goto 4, 3) := by decide +kernel
theorem dX6_kindsOfOne_109 : decode cX6_kindsOfOne 109 = .ok (.iconst 0, 1) := by decide +kernel
theorem dX6_kindsOfOne_110 : decode cX6_kindsOfOne 110 = .ok (.ior, 1) := by decide +kernel
theorem dX6_kindsOfOne_111 : decode cX6_kindsOfOne 111 = .ok (.istore_n 2, 1) := by decide +kernel
theorem dX6_kindsOfOne_112 : decode cX6_kindsOfOne 112 = .ok (.iinc 3 1, 3) := by decide +kernel
theorem dX6_kindsOfOne_115 : decode cX6_kindsOfOne 115 = .ok (.goto (-111), 3) := by decide +kernel
theorem dX6_kindsOfOne_118 : decode cX6_kindsOfOne 118 = .ok (.iload_n 2, 1) := by decide +kernel
theorem dX6_kindsOfOne_119 : decode cX6_kindsOfOne 119 = .ok (.ireturn, 1) := by decide +kernel
theorem dX6_what_0 : decode cX6_what 0 = .ok (.aload_n 0, 1) := by decide +kernel
theorem dX6_what_1 : decode cX6_what 1 = .ok (.iload_n 1, 1) := by decide +kernel
theorem dX6_what_2 : decode cX6_what 2 = .ok (.invokevirtual 194, 3) := by decide +kernel
theorem dX6_what_5 : decode cX6_what 5 = .ok (.ifCond .eq 11, 3) := by decide +kernel
theorem dX6_what_8 : decode cX6_what 8 = .ok (.aload_n 0, 1) := by decide +kernel
theorem dX6_what_9 : decode cX6_what 9 = .ok (.iload_n 1, 1) := by decide +kernel
theorem dX6_what_10 : decode cX6_what 10 = .ok (.invokevirtual 271, 3) := by decide +kernel
theorem dX6_what_13 : decode cX6_what 13 = .ok (.goto 7, 3) := by decide +kernel
theorem dX6_what_16 : decode cX6_what 16 = .ok (.aload_n 0, 1) := by decide +kernel
theorem dX6_what_17 : decode cX6_what 17 = .ok (.invokevirtual 100, 3) := by decide +kernel
theorem dX6_what_20 : decode cX6_what 20 = .ok (.ireturn, 1) := by decide +kernel
theorem dX6_tries_0 : decode cX6_tries 0 = .ok (.aload_n 0, 1) := by decide +kernel
theorem dX6_tries_1 : decode cX6_tries 1 = .ok (.iload_n 1, 1) := by decide +kernel
theorem dX6_tries_2 : decode cX6_tries 2 = .ok (.invokevirtual 194, 3) := by decide +kernel
theorem dX6_tries_5 : decode cX6_tries 5 = .ok (.ifCond .ne 8, 3) := by decide +kernel
theorem dX6_tries_8 : decode cX6_tries 8 = .ok (.aload_n 0, 1) := by decide +kernel
theorem dX6_tries_9 : decode cX6_tries 9 = .ok (.invokevirtual 100, 3) := by decide +kernel
theorem dX6_tries_12 : decode cX6_tries 12 = .ok (.ireturn, 1) := by decide +kernel
theorem dX6_tries_13 : decode cX6_tries 13 = .ok (.aload_n 0, 1) := by decide +kernel
theorem dX6_tries_14 : decode cX6_tries 14 = .ok (.iload_n 1, 1) := by decide +kernel
theorem dX6_tries_15 : decode cX6_tries 15 = .ok (.invokevirtual 271, 3) := by decide +kernel
theorem dX6_tries_18 : decode cX6_tries 18 = .ok (.istore_n 2, 1) := by decide +kernel
theorem dX6_tries_19 : decode cX6_tries 19 = .ok (.iconst (-1), 1) := by decide +kernel
theorem dX6_tries_20 : decode cX6_tries 20 = .ok (.istore_n 3, 1) := by decide +kernel
theorem dX6_tries_21 : decode cX6_tries 21 = .ok (.ldc 230, 2) := by decide +kernel
theorem dX6_tries_23 : decode cX6_tries 23 = .ok (.istore 4, 2) := by decide +kernel
theorem dX6_tries_25 : decode cX6_tries 25 = .ok (.iconst 0, 1) := by decide +kernel
theorem dX6_tries_26 : decode cX6_tries 26 = .ok (.istore 5, 2) := by decide +kernel
theorem dX6_tries_28 : decode cX6_tries 28 = .ok (.iload 5, 2) := by decide +kernel
theorem dX6_tries_30 : decode cX6_tries 30 = .ok (.bipush 10, 2) := by decide +kernel
theorem dX6_tries_32 : decode cX6_tries 32 = .ok (.if_icmp .ge 113, 3) := by decide +kernel
theorem dX6_tries_35 : decode cX6_tries 35 = .ok (.iload_n 2, 1) := by decide +kernel
theorem dX6_tries_36 : decode cX6_tries 36 = .ok (.ifCond .eq 109, 3) := by decide +kernel
theorem dX6_tries_39 : decode cX6_tries 39 = .ok (.iconst 0, 1) := by decide +kernel
theorem dX6_tries_40 : decode cX6_tries 40 = .ok (.istore 6, 2) := by decide +kernel
theorem dX6_tries_42 : decode cX6_tries 42 = .ok (.iload 6, 2) := by decide +kernel
theorem dX6_tries_44 : decode cX6_tries 44 = .ok (.bipush 21, 2) := by decide +kernel
theorem dX6_tries_46 : decode cX6_tries 46 = .ok (.if_icmp .ge 93, 3) := by decide +kernel
theorem dX6_tries_49 : decode cX6_tries 49 = .ok (.aload_n 0, 1) := by decide +kernel
theorem dX6_tries_50 : decode cX6_tries 50 = .ok (.invokevirtual 262, 3) := by decide +kernel
theorem dX6_tries_53 : decode cX6_tries 53 = .ok (.iconst 0, 1) := by decide +kernel
theorem dX6_tries_54 : decode cX6_tries 54 = .ok (.istore 7, 2) := by decide +kernel
theorem dX6_tries_56 : decode cX6_tries 56 = .ok (.iload 7, 2) := by decide +kernel
theorem dX6_tries_58 : decode cX6_tries 58 = .ok (.bipush 6, 2) := by decide +kernel
theorem dX6_tries_60 : decode cX6_tries 60 = .ok (.if_icmp .ge 31, 3) := by decide +kernel
theorem dX6_tries_63 : decode cX6_tries 63 = .ok (.iload_n 2, 1) := by decide +kernel
theorem dX6_tries_64 : decode cX6_tries 64 = .ok (.iload 7, 2) := by decide +kernel
theorem dX6_tries_66 : decode cX6_tries 66 = .ok (.invokestatic 265, 3) := by decide +kernel
theorem dX6_tries_69 : decode cX6_tries 69 = .ok (.ifCond .eq 16, 3) := by decide +kernel
theorem dX6_tries_72 : decode cX6_tries 72 = .ok (.aload_n 0, 1) := by decide +kernel
theorem dX6_tries_73 : decode cX6_tries 73 = .ok (.iload 7, 2) := by decide +kernel
theorem dX6_tries_75 : decode cX6_tries 75 = .ok (.iload 5, 2) := by decide +kernel
theorem dX6_tries_77 : decode cX6_tries 77 = .ok (.iload 6, 2) := by decide +kernel
theorem dX6_tries_79 : decode cX6_tries 79 = .ok (.invokestatic 60, 3) := by decide +kernel
theorem dX6_tries_82 : decode cX6_tries 82 = .ok (.invokevirtual 268, 3) := by decide +kernel
theorem dX6_tries_85 : decode cX6_tries 85 = .ok (.iinc 7 1, 3) := by decide +kernel
theorem dX6_tries_88 : decode cX6_tries 88 = .ok (.goto (-32), 3) := by decide +kernel
theorem dX6_tries_91 : decode cX6_tries 91 = .ok (.aload_n 0, 1) := by decide +kernel
theorem dX6_tries_92 : decode cX6_tries 92 = .ok (.getfield 259, 3) := by decide +kernel
theorem dX6_tries_95 : decode cX6_tries 95 = .ok (.iload 4, 2) := by decide +kernel
theorem dX6_tries_97 : decode cX6_tries 97 = .ok (.if_icmp .ge 14, 3) := by decide +kernel
theorem dX6_tries_100 : decode cX6_tries 100 = .ok (.bipush 100, 2) := by decide +kernel
theorem dX6_tries_102 : decode cX6_tries 102 = .ok (.iload 5, 2) := by decide +kernel
theorem dX6_tries_104 : decode cX6_tries 104 = .ok (.imul, 1) := by decide +kernel
theorem dX6_tries_105 : decode cX6_tries 105 = .ok (.iload 6, 2) := by decide +kernel
theorem dX6_tries_107 : decode cX6_tries 107 = .ok (.iadd, 1) := by decide +kernel
theorem dX6_tries_108 : decode cX6_tries 108 = .ok (.goto 4, 3) := by decide +kernel
theorem dX6_tries_111 : decode cX6_tries 111 = .ok (.iload_n 3, 1) := by decide +kernel
theorem dX6_tries_112 : decode cX6_tries 112 = .ok (.istore_n 3, 1) := by decide +kernel
theorem dX6_tries_113 : decode cX6_tries 113 = .ok (.aload_n 0, 1) := by decide +kernel
theorem dX6_tries_114 : decode cX6_tries 114 = .ok (.getfield 259, 3) := by decide +kernel
theorem dX6_tries_117 : decode cX6_tries 117 = .ok (.iload 4, 2) := by decide +kernel
theorem dX6_tries_119 : decode cX6_tries 119 = .ok (.if_icmp .ge 10, 3) := by decide +kernel
theorem dX6_tries_122 : decode cX6_tries 122 = .ok (.aload_n 0, 1) := by decide +kernel
theorem dX6_tries_123 : decode cX6_tries 123 = .ok (.getfield 259, 3) := by decide +kernel
theorem dX6_tries_126 : decode cX6_tries 126 = .ok (.goto 5, 3) := by decide +kernel
theorem dX6_tries_129 : decode cX6_tries 129 = .ok (.iload 4, 2) := by decide +kernel
theorem dX6_tries_131 : decode cX6_tries 131 = .ok (.istore 4, 2) := by decide +kernel
theorem dX6_tries_133 : decode cX6_tries 133 = .ok (.iinc 6 1, 3) := by decide +kernel
theorem dX6_tries_136 : decode cX6_tries 136 = .ok (.goto (-94), 3) := by decide +kernel
theorem dX6_tries_139 : decode cX6_tries 139 = .ok (.iinc 5 1, 3) := by decide +kernel
theorem dX6_tries_142 : decode cX6_tries 142 = .ok (.goto (-114), 3) := by decide +kernel
theorem dX6_tries_145 : decode cX6_tries 145 = .ok (.iload_n 3, 1) := by decide +kernel
theorem dX6_tries_146 : decode cX6_tries 146 = .ok (.ireturn, 1) := by decide +kernel
theorem dX6_stays_0 : decode cX6_stays 0 = .ok (.iload_n 2, 1) := by decide +kernel
theorem dX6_stays_1 : decode cX6_stays 1 = .ok (.iload_n 3, 1) := by decide +kernel
theorem dX6_stays_2 : decode cX6_stays 2 = .ok (.if_icmp .ne 7, 3) := by decide +kernel
theorem dX6_stays_5 : decode cX6_stays 5 = .ok (.iconst 0, 1) := by decide +kernel
theorem dX6_stays_6 : decode cX6_stays 6 = .ok (.goto 13, 3) := by decide +kernel
theorem dX6_stays_9 : decode cX6_stays 9 = .ok (.aload_n 0, 1) := by decide +kernel
theorem dX6_stays_10 : decode cX6_stays 10 = .ok (.aload_n 0, 1) := by decide +kernel
theorem dX6_stays_11 : decode cX6_stays 11 = .ok (.getfield 7, 3) := by decide +kernel
theorem dX6_stays_14 : decode cX6_stays 14 = .ok (.iload_n 1, 1) := by decide +kernel
theorem dX6_stays_15 : decode cX6_stays 15 = .ok (.iload_n 2, 1) := by decide +kernel
theorem dX6_stays_16 : decode cX6_stays 16 = .ok (.invokevirtual 64, 3) := by decide +kernel
theorem dX6_stays_19 : decode cX6_stays 19 = .ok (.istore 4, 2) := by decide +kernel
theorem dX6_stays_21 : decode cX6_stays 21 = .ok (.iconst 1, 1) := by decide +kernel
theorem dX6_stays_22 : decode cX6_stays 22 = .ok (.istore 5, 2) := by decide +kernel
theorem dX6_stays_24 : decode cX6_stays 24 = .ok (.iconst 0, 1) := by decide +kernel
theorem dX6_stays_25 : decode cX6_stays 25 = .ok (.istore 6, 2) := by decide +kernel
theorem dX6_stays_27 : decode cX6_stays 27 = .ok (.iload 6, 2) := by decide +kernel
theorem dX6_stays_29 : decode cX6_stays 29 = .ok (.aload_n 0, 1) := by decide +kernel
theorem dX6_stays_30 : decode cX6_stays 30 = .ok (.getfield 7, 3) := by decide +kernel
theorem dX6_stays_33 : decode cX6_stays 33 = .ok (.bipush 33, 2) := by decide +kernel
theorem dX6_stays_35 : decode cX6_stays 35 = .ok (.iaload, 1) := by decide +kernel
theorem dX6_stays_36 : decode cX6_stays 36 = .ok (.if_icmp .ge 43, 3) := by decide +kernel
theorem dX6_stays_39 : decode cX6_stays 39 = .ok (.iload 5, 2) := by decide +kernel
theorem dX6_stays_41 : decode cX6_stays 41 = .ok (.ifCond .eq 29, 3) := by decide +kernel
theorem dX6_stays_44 : decode cX6_stays 44 = .ok (.iload 6, 2) := by decide +kernel
theorem dX6_stays_46 : decode cX6_stays 46 = .ok (.iload_n 3, 1) := by decide +kernel
theorem dX6_stays_47 : decode cX6_stays 47 = .ok (.if_icmp .eq 19, 3) := by decide +kernel
theorem dX6_stays_50 : decode cX6_stays 50 = .ok (.aload_n 0, 1) := by decide +kernel
theorem dX6_stays_51 : decode cX6_stays 51 = .ok (.aload_n 0, 1) := by decide +kernel
theorem dX6_stays_52 : decode cX6_stays 52 = .ok (.getfield 7, 3) := by decide +kernel
theorem dX6_stays_55 : decode cX6_stays 55 = .ok (.iload_n 1, 1) := by decide +kernel
theorem dX6_stays_56 : decode cX6_stays 56 = .ok (.iload 6, 2) := by decide +kernel
theorem dX6_stays_58 : decode cX6_stays 58 = .ok (.invokevirtual 64, 3) := by decide +kernel
theorem dX6_stays_61 : decode cX6_stays 61 = .ok (.iload 4, 2) := by decide +kernel
theorem dX6_stays_63 : decode cX6_stays 63 = .ok (.if_icmp .gt 7, 3) := by decide +kernel
theorem dX6_stays_66 : decode cX6_stays 66 = .ok (.iconst 1, 1) := by decide +kernel
theorem dX6_stays_67 : decode cX6_stays 67 = .ok (.goto 4, 3) := by decide +kernel
theorem dX6_stays_70 : decode cX6_stays 70 = .ok (.iconst 0, 1) := by decide +kernel
theorem dX6_stays_71 : decode cX6_stays 71 = .ok (.istore 5, 2) := by decide +kernel
theorem dX6_stays_73 : decode cX6_stays 73 = .ok (.iinc 6 1, 3) := by decide +kernel
theorem dX6_stays_76 : decode cX6_stays 76 = .ok (.goto (-49), 3) := by decide +kernel
theorem dX6_stays_79 : decode cX6_stays 79 = .ok (.iload 5, 2) := by decide +kernel
theorem dX6_stays_81 : decode cX6_stays 81 = .ok (.ireturn, 1) := by decide +kernel
theorem dX6_two_0 : decode cX6_two 0 = .ok (.aload_n 0, 1) := by decide +kernel
theorem dX6_two_1 : decode cX6_two 1 = .ok (.iload_n 1, 1) := by decide +kernel
theorem dX6_two_2 : decode cX6_two 2 = .ok (.invokevirtual 194, 3) := by decide +kernel
theorem dX6_two_5 : decode cX6_two 5 = .ok (.ifCond .eq 21, 3) := by decide +kernel
theorem dX6_two_8 : decode cX6_two 8 = .ok (.aload_n 0, 1) := by decide +kernel
theorem dX6_two_9 : decode cX6_two 9 = .ok (.iload_n 2, 1) := by decide +kernel
theorem dX6_two_10 : decode cX6_two 10 = .ok (.invokevirtual 194, 3) := by decide +kernel
theorem dX6_two_13 : decode cX6_two 13 = .ok (.ifCond .eq 13, 3) := by decide +kernel
theorem dX6_two_16 : decode cX6_two 16 = .ok (.iload_n 1, 1) := by decide +kernel
theorem dX6_two_17 : decode cX6_two 17 = .ok (.iload_n 2, 1) := by decide +kernel
theorem dX6_two_18 : decode cX6_two 18 = .ok (.if_icmp .eq 8, 3) := by decide +kernel
theorem dX6_two_21 : decode cX6_two 21 = .ok (.iload_n 3, 1) := by decide +kernel
theorem dX6_two_22 : decode cX6_two 22 = .ok (.iconst (-1), 1) := by decide +kernel
theorem dX6_two_23 : decode cX6_two 23 = .ok (.if_icmp .ge 8, 3) := by decide +kernel
theorem dX6_two_26 : decode cX6_two 26 = .ok (.aload_n 0, 1) := by decide +kernel
theorem dX6_two_27 : decode cX6_two 27 = .ok (.invokevirtual 200, 3) := by decide +kernel
theorem dX6_two_30 : decode cX6_two 30 = .ok (.ireturn, 1) := by decide +kernel
theorem dX6_two_31 : decode cX6_two 31 = .ok (.iconst 0, 1) := by decide +kernel
theorem dX6_two_32 : decode cX6_two 32 = .ok (.istore 4, 2) := by decide +kernel
theorem dX6_two_34 : decode cX6_two 34 = .ok (.bipush (-5), 2) := by decide +kernel
theorem dX6_two_36 : decode cX6_two 36 = .ok (.istore 5, 2) := by decide +kernel
theorem dX6_two_38 : decode cX6_two 38 = .ok (.iconst 0, 1) := by decide +kernel
theorem dX6_two_39 : decode cX6_two 39 = .ok (.istore 6, 2) := by decide +kernel
theorem dX6_two_41 : decode cX6_two 41 = .ok (.iload 6, 2) := by decide +kernel
theorem dX6_two_43 : decode cX6_two 43 = .ok (.aload_n 0, 1) := by decide +kernel
theorem dX6_two_44 : decode cX6_two 44 = .ok (.getfield 7, 3) := by decide +kernel
theorem dX6_two_47 : decode cX6_two 47 = .ok (.bipush 33, 2) := by decide +kernel
theorem dX6_two_49 : decode cX6_two 49 = .ok (.iaload, 1) := by decide +kernel
theorem dX6_two_50 : decode cX6_two 50 = .ok (.if_icmp .ge 78, 3) := by decide +kernel
theorem dX6_two_53 : decode cX6_two 53 = .ok (.iconst 0, 1) := by decide +kernel
theorem dX6_two_54 : decode cX6_two 54 = .ok (.istore 7, 2) := by decide +kernel
theorem dX6_two_56 : decode cX6_two 56 = .ok (.iload 7, 2) := by decide +kernel
theorem dX6_two_58 : decode cX6_two 58 = .ok (.aload_n 0, 1) := by decide +kernel
theorem dX6_two_59 : decode cX6_two 59 = .ok (.getfield 7, 3) := by decide +kernel
theorem dX6_two_62 : decode cX6_two 62 = .ok (.bipush 33, 2) := by decide +kernel
theorem dX6_two_64 : decode cX6_two 64 = .ok (.iaload, 1) := by decide +kernel
theorem dX6_two_65 : decode cX6_two 65 = .ok (.if_icmp .ge 57, 3) := by decide +kernel
theorem dX6_two_68 : decode cX6_two 68 = .ok (.aload_n 0, 1) := by decide +kernel
theorem dX6_two_69 : decode cX6_two 69 = .ok (.iload_n 1, 1) := by decide +kernel
theorem dX6_two_70 : decode cX6_two 70 = .ok (.iload 6, 2) := by decide +kernel
theorem dX6_two_72 : decode cX6_two 72 = .ok (.iload 7, 2) := by decide +kernel
theorem dX6_two_74 : decode cX6_two 74 = .ok (.invokevirtual 274, 3) := by decide +kernel
theorem dX6_two_77 : decode cX6_two 77 = .ok (.ifCond .eq 39, 3) := by decide +kernel
theorem dX6_two_80 : decode cX6_two 80 = .ok (.aload_n 0, 1) := by decide +kernel
theorem dX6_two_81 : decode cX6_two 81 = .ok (.iload_n 2, 1) := by decide +kernel
theorem dX6_two_82 : decode cX6_two 82 = .ok (.iload 7, 2) := by decide +kernel
theorem dX6_two_84 : decode cX6_two 84 = .ok (.iload 6, 2) := by decide +kernel
theorem dX6_two_86 : decode cX6_two 86 = .ok (.invokevirtual 274, 3) := by decide +kernel
theorem dX6_two_89 : decode cX6_two 89 = .ok (.ifCond .eq 27, 3) := by decide +kernel
theorem dX6_two_92 : decode cX6_two 92 = .ok (.iload 4, 2) := by decide +kernel
theorem dX6_two_94 : decode cX6_two 94 = .ok (.iload_n 3, 1) := by decide +kernel
theorem dX6_two_95 : decode cX6_two 95 = .ok (.if_icmp .ne 14, 3) := by decide +kernel
theorem dX6_two_98 : decode cX6_two 98 = .ok (.bipush 7, 2) := by decide +kernel
theorem dX6_two_100 : decode cX6_two 100 = .ok (.iload 6, 2) := by decide +kernel
theorem dX6_two_102 : decode cX6_two 102 = .ok (.imul, 1) := by decide +kernel
theorem dX6_two_103 : decode cX6_two 103 = .ok (.iload 7, 2) := by decide +kernel
theorem dX6_two_105 : decode cX6_two 105 = .ok (.iadd, 1) := by decide +kernel
theorem dX6_two_106 : decode cX6_two 106 = .ok (.goto 5, 3) := by decide +kernel
theorem dX6_two_109 : decode cX6_two 109 = .ok (.iload 5, 2) := by decide +kernel
theorem dX6_two_111 : decode cX6_two 111 = .ok (.istore 5, 2) := by decide +kernel
theorem dX6_two_113 : decode cX6_two 113 = .ok (.iinc 4 1, 3) := by decide +kernel
theorem dX6_two_116 : decode cX6_two 116 = .ok (.iinc 7 1, 3) := by decide +kernel
theorem dX6_two_119 : decode cX6_two 119 = .ok (.goto (-63), 3) := by decide +kernel
theorem dX6_two_122 : decode cX6_two 122 = .ok (.iinc 6 1, 3) := by decide +kernel
theorem dX6_two_125 : decode cX6_two 125 = .ok (.goto (-84), 3) := by decide +kernel
theorem dX6_two_128 : decode cX6_two 128 = .ok (.iload_n 3, 1) := by decide +kernel
theorem dX6_two_129 : decode cX6_two 129 = .ok (.iconst (-1), 1) := by decide +kernel
theorem dX6_two_130 : decode cX6_two 130 = .ok (.if_icmp .ne 8, 3) := by decide +kernel
theorem dX6_two_133 : decode cX6_two 133 = .ok (.iload 4, 2) := by decide +kernel
theorem dX6_two_135 : decode cX6_two 135 = .ok (.goto 5, 3) := by decide +kernel
theorem dX6_two_138 : decode cX6_two 138 = .ok (.iload 5, 2) := by decide +kernel
theorem dX6_two_140 : decode cX6_two 140 = .ok (.ireturn, 1) := by decide +kernel
theorem dX6_fraction_0 : decode cX6_fraction 0 = .ok (.lload_n 1, 1) := by decide +kernel
theorem dX6_fraction_1 : decode cX6_fraction 1 = .ok (.lstore 5, 2) := by decide +kernel
theorem dX6_fraction_3 : decode cX6_fraction 3 = .ok (.lload_n 3, 1) := by decide +kernel
theorem dX6_fraction_4 : decode cX6_fraction 4 = .ok (.lstore 7, 2) := by decide +kernel
theorem dX6_fraction_6 : decode cX6_fraction 6 = .ok (.lload 7, 2) := by decide +kernel
theorem dX6_fraction_8 : decode cX6_fraction 8 = .ok (.lconst 0, 1) := by decide +kernel
theorem dX6_fraction_9 : decode cX6_fraction 9 = .ok (.lcmp, 1) := by decide +kernel
theorem dX6_fraction_10 : decode cX6_fraction 10 = .ok (.ifCond .eq 21, 3) := by decide +kernel
theorem dX6_fraction_13 : decode cX6_fraction 13 = .ok (.lload 5, 2) := by decide +kernel
theorem dX6_fraction_15 : decode cX6_fraction 15 = .ok (.lload 7, 2) := by decide +kernel
theorem dX6_fraction_17 : decode cX6_fraction 17 = .ok (.lrem, 1) := by decide +kernel
theorem dX6_fraction_18 : decode cX6_fraction 18 = .ok (.lstore 9, 2) := by decide +kernel
theorem dX6_fraction_20 : decode cX6_fraction 20 = .ok (.lload 7, 2) := by decide +kernel
theorem dX6_fraction_22 : decode cX6_fraction 22 = .ok (.lstore 5, 2) := by decide +kernel
theorem dX6_fraction_24 : decode cX6_fraction 24 = .ok (.lload 9, 2) := by decide +kernel
theorem dX6_fraction_26 : decode cX6_fraction 26 = .ok (.lstore 7, 2) := by decide +kernel
theorem dX6_fraction_28 : decode cX6_fraction 28 = .ok (.goto (-22), 3) := by decide +kernel
theorem dX6_fraction_31 : decode cX6_fraction 31 = .ok (.aload_n 0, 1) := by decide +kernel
theorem dX6_fraction_32 : decode cX6_fraction 32 = .ok (.lload_n 1, 1) := by decide +kernel
theorem dX6_fraction_33 : decode cX6_fraction 33 = .ok (.lload 5, 2) := by decide +kernel
theorem dX6_fraction_35 : decode cX6_fraction 35 = .ok (.ldiv, 1) := by decide +kernel
theorem dX6_fraction_36 : decode cX6_fraction 36 = .ok (.putfield 278, 3) := by decide +kernel
theorem dX6_fraction_39 : decode cX6_fraction 39 = .ok (.aload_n 0, 1) := by decide +kernel
theorem dX6_fraction_40 : decode cX6_fraction 40 = .ok (.lload_n 3, 1) := by decide +kernel
theorem dX6_fraction_41 : decode cX6_fraction 41 = .ok (.lload 5, 2) := by decide +kernel
theorem dX6_fraction_43 : decode cX6_fraction 43 = .ok (.ldiv, 1) := by decide +kernel
theorem dX6_fraction_44 : decode cX6_fraction 44 = .ok (.putfield 29, 3) := by decide +kernel
theorem dX6_fraction_47 : decode cX6_fraction 47 = .ok (.return_, 1) := by decide +kernel
theorem dX6_left_0 : decode cX6_left 0 = .ok (.iload_n 1, 1) := by decide +kernel
theorem dX6_left_1 : decode cX6_left 1 = .ok (.i2l, 1) := by decide +kernel
theorem dX6_left_2 : decode cX6_left 2 = .ok (.lconst 0, 1) := by decide +kernel
theorem dX6_left_3 : decode cX6_left 3 = .ok (.ldc2_w 92, 3) := by decide +kernel
theorem dX6_left_6 : decode cX6_left 6 = .ok (.invokestatic 86, 3) := by decide +kernel
theorem dX6_left_9 : decode cX6_left 9 = .ok (.ifCond .eq 27, 3) := by decide +kernel
theorem dX6_left_12 : decode cX6_left 12 = .ok (.iload_n 2, 1) := by decide +kernel
theorem dX6_left_13 : decode cX6_left 13 = .ok (.i2l, 1) := by decide +kernel
theorem dX6_left_14 : decode cX6_left 14 = .ok (.lconst 0, 1) := by decide +kernel
theorem dX6_left_15 : decode cX6_left 15 = .ok (.ldc2_w 90, 3) := by decide +kernel
theorem dX6_left_18 : decode cX6_left 18 = .ok (.invokestatic 86, 3) := by decide +kernel
theorem dX6_left_21 : decode cX6_left 21 = .ok (.ifCond .eq 15, 3) := by decide +kernel
theorem dX6_left_24 : decode cX6_left 24 = .ok (.iload_n 3, 1) := by decide +kernel
theorem dX6_left_25 : decode cX6_left 25 = .ok (.i2l, 1) := by decide +kernel
theorem dX6_left_26 : decode cX6_left 26 = .ok (.lconst 0, 1) := by decide +kernel
theorem dX6_left_27 : decode cX6_left 27 = .ok (.ldc2_w 281, 3) := by decide +kernel
theorem dX6_left_30 : decode cX6_left 30 = .ok (.invokestatic 86, 3) := by decide +kernel
theorem dX6_left_33 : decode cX6_left 33 = .ok (.ifCond .ne 8, 3) := by decide +kernel
theorem dX6_left_36 : decode cX6_left 36 = .ok (.aload_n 0, 1) := by decide +kernel
theorem dX6_left_37 : decode cX6_left 37 = .ok (.invokevirtual 100, 3) := by decide +kernel
theorem dX6_left_40 : decode cX6_left 40 = .ok (.ireturn, 1) := by decide +kernel
theorem dX6_left_41 : decode cX6_left 41 = .ok (.lconst 1, 1) := by decide +kernel
theorem dX6_left_42 : decode cX6_left 42 = .ok (.lstore 4, 2) := by decide +kernel
theorem dX6_left_44 : decode cX6_left 44 = .ok (.lconst 1, 1) := by decide +kernel
theorem dX6_left_45 : decode cX6_left 45 = .ok (.lstore 6, 2) := by decide +kernel
theorem dX6_left_47 : decode cX6_left 47 = .ok (.iconst 0, 1) := by decide +kernel
theorem dX6_left_48 : decode cX6_left 48 = .ok (.istore 8, 2) := by decide +kernel
theorem dX6_left_50 : decode cX6_left 50 = .ok (.iload 8, 2) := by decide +kernel
theorem dX6_left_52 : decode cX6_left 52 = .ok (.iload_n 2, 1) := by decide +kernel
theorem dX6_left_53 : decode cX6_left 53 = .ok (.if_icmp .ge 27, 3) := by decide +kernel
theorem dX6_left_56 : decode cX6_left 56 = .ok (.lload 4, 2) := by decide +kernel
theorem dX6_left_58 : decode cX6_left 58 = .ok (.bipush 10, 2) := by decide +kernel
theorem dX6_left_60 : decode cX6_left 60 = .ok (.iload_n 3, 1) := by decide +kernel
theorem dX6_left_61 : decode cX6_left 61 = .ok (.isub, 1) := by decide +kernel
theorem dX6_left_62 : decode cX6_left 62 = .ok (.i2l, 1) := by decide +kernel
theorem dX6_left_63 : decode cX6_left 63 = .ok (.lmul, 1) := by decide +kernel
theorem dX6_left_64 : decode cX6_left 64 = .ok (.lstore 4, 2) := by decide +kernel
theorem dX6_left_66 : decode cX6_left 66 = .ok (.lload 6, 2) := by decide +kernel
theorem dX6_left_68 : decode cX6_left 68 = .ok (.ldc2_w 281, 3) := by decide +kernel
theorem dX6_left_71 : decode cX6_left 71 = .ok (.lmul, 1) := by decide +kernel
theorem dX6_left_72 : decode cX6_left 72 = .ok (.lstore 6, 2) := by decide +kernel
theorem dX6_left_74 : decode cX6_left 74 = .ok (.iinc 8 1, 3) := by decide +kernel
theorem dX6_left_77 : decode cX6_left 77 = .ok (.goto (-27), 3) := by decide +kernel
theorem dX6_left_80 : decode cX6_left 80 = .ok (.lconst 0, 1) := by decide +kernel
theorem dX6_left_81 : decode cX6_left 81 = .ok (.lstore 8, 2) := by decide +kernel
theorem dX6_left_83 : decode cX6_left 83 = .ok (.lconst 1, 1) := by decide +kernel
theorem dX6_left_84 : decode cX6_left 84 = .ok (.lstore 10, 2) := by decide +kernel
theorem dX6_left_86 : decode cX6_left 86 = .ok (.iconst 0, 1) := by decide +kernel
theorem dX6_left_87 : decode cX6_left 87 = .ok (.istore 12, 2) := by decide +kernel
theorem dX6_left_89 : decode cX6_left 89 = .ok (.iload 12, 2) := by decide +kernel
theorem dX6_left_91 : decode cX6_left 91 = .ok (.aload_n 0, 1) := by decide +kernel
theorem dX6_left_92 : decode cX6_left 92 = .ok (.getfield 7, 3) := by decide +kernel
theorem dX6_left_95 : decode cX6_left 95 = .ok (.bipush 48, 2) := by decide +kernel
theorem dX6_left_97 : decode cX6_left 97 = .ok (.iaload, 1) := by decide +kernel
theorem dX6_left_98 : decode cX6_left 98 = .ok (.if_icmp .ge 16, 3) := by decide +kernel
theorem dX6_left_101 : decode cX6_left 101 = .ok (.lload 10, 2) := by decide +kernel
theorem dX6_left_103 : decode cX6_left 103 = .ok (.lload 6, 2) := by decide +kernel
theorem dX6_left_105 : decode cX6_left 105 = .ok (.lmul, 1) := by decide +kernel
theorem dX6_left_106 : decode cX6_left 106 = .ok (.lstore 10, 2) := by decide +kernel
theorem dX6_left_108 : decode cX6_left 108 = .ok (.iinc 12 1, 3) := by decide +kernel
theorem dX6_left_111 : decode cX6_left 111 = .ok (.goto (-22), 3) := by decide +kernel
theorem dX6_left_114 : decode cX6_left 114 = .ok (.iconst 0, 1) := by decide +kernel
theorem dX6_left_115 : decode cX6_left 115 = .ok (.istore 12, 2) := by decide +kernel
theorem dX6_left_117 : decode cX6_left 117 = .ok (.iload 12, 2) := by decide +kernel
theorem dX6_left_119 : decode cX6_left 119 = .ok (.iconst 1, 1) := by decide +kernel
theorem dX6_left_120 : decode cX6_left 120 = .ok (.aload_n 0, 1) := by decide +kernel
theorem dX6_left_121 : decode cX6_left 121 = .ok (.getfield 7, 3) := by decide +kernel
theorem dX6_left_124 : decode cX6_left 124 = .ok (.bipush 48, 2) := by decide +kernel
theorem dX6_left_126 : decode cX6_left 126 = .ok (.iaload, 1) := by decide +kernel
theorem dX6_left_127 : decode cX6_left 127 = .ok (.ishl, 1) := by decide +kernel
theorem dX6_left_128 : decode cX6_left 128 = .ok (.if_icmp .ge 90, 3) := by decide +kernel
theorem dX6_left_131 : decode cX6_left 131 = .ok (.lconst 1, 1) := by decide +kernel
theorem dX6_left_132 : decode cX6_left 132 = .ok (.lstore 13, 2) := by decide +kernel
theorem dX6_left_134 : decode cX6_left 134 = .ok (.iconst 0, 1) := by decide +kernel
theorem dX6_left_135 : decode cX6_left 135 = .ok (.istore 15, 2) := by decide +kernel
theorem dX6_left_137 : decode cX6_left 137 = .ok (.iconst 0, 1) := by decide +kernel
theorem dX6_left_138 : decode cX6_left 138 = .ok (.istore 16, 2) := by decide +kernel
theorem dX6_left_140 : decode cX6_left 140 = .ok (.iload 16, 2) := by decide +kernel
theorem dX6_left_142 : decode cX6_left 142 = .ok (.aload_n 0, 1) := by decide +kernel
theorem dX6_left_143 : decode cX6_left 143 = .ok (.getfield 7, 3) := by decide +kernel
theorem dX6_left_146 : decode cX6_left 146 = .ok (.bipush 48, 2) := by decide +kernel
theorem dX6_left_148 : decode cX6_left 148 = .ok (.iaload, 1) := by decide +kernel
theorem dX6_left_149 : decode cX6_left 149 = .ok (.if_icmp .ge 46, 3) := by decide +kernel
theorem dX6_left_152 : decode cX6_left 152 = .ok (.lload 13, 2) := by decide +kernel
theorem dX6_left_154 : decode cX6_left 154 = .ok (.iload 12, 2) := by decide +kernel
theorem dX6_left_156 : decode cX6_left 156 = .ok (.iload 16, 2) := by decide +kernel
theorem dX6_left_158 : decode cX6_left 158 = .ok (.invokestatic 265, 3) := by decide +kernel
theorem dX6_left_161 : decode cX6_left 161 = .ok (.ifCond .eq 8, 3) := by decide +kernel
theorem dX6_left_164 : decode cX6_left 164 = .ok (.lload 4, 2) := by decide +kernel
theorem dX6_left_166 : decode cX6_left 166 = .ok (.goto 8, 3) := by decide +kernel
theorem dX6_left_169 : decode cX6_left 169 = .ok (.lload 6, 2) := by decide +kernel
theorem dX6_left_171 : decode cX6_left 171 = .ok (.lload 4, 2) := by decide +kernel
theorem dX6_left_173 : decode cX6_left 173 = .ok (.lsub, 1) := by decide +kernel
theorem dX6_left_174 : decode cX6_left 174 = .ok (.lmul, 1) := by decide +kernel
theorem dX6_left_175 : decode cX6_left 175 = .ok (.lstore 13, 2) := by decide +kernel
theorem dX6_left_177 : decode cX6_left 177 = .ok (.iload 15, 2) := by decide +kernel
theorem dX6_left_179 : decode cX6_left 179 = .ok (.iload 12, 2) := by decide +kernel
theorem dX6_left_181 : decode cX6_left 181 = .ok (.iload 16, 2) := by decide +kernel
theorem dX6_left_183 : decode cX6_left 183 = .ok (.ishr, 1) := by decide +kernel
theorem dX6_left_184 : decode cX6_left 184 = .ok (.iconst 1, 1) := by decide +kernel
theorem dX6_left_185 : decode cX6_left 185 = .ok (.iand, 1) := by decide +kernel
theorem dX6_left_186 : decode cX6_left 186 = .ok (.iadd, 1) := by decide +kernel
theorem dX6_left_187 : decode cX6_left 187 = .ok (.istore 15, 2) := by decide +kernel
theorem dX6_left_189 : decode cX6_left 189 = .ok (.iinc 16 1, 3) := by decide +kernel
theorem dX6_left_192 : decode cX6_left 192 = .ok (.goto (-52), 3) := by decide +kernel
theorem dX6_left_195 : decode cX6_left 195 = .ok (.lload 8, 2) := by decide +kernel
theorem dX6_left_197 : decode cX6_left 197 = .ok (.iload 15, 2) := by decide +kernel
theorem dX6_left_199 : decode cX6_left 199 = .ok (.iload_n 1, 1) := by decide +kernel
theorem dX6_left_200 : decode cX6_left 200 = .ok (.if_icmp .lt 8, 3) := by decide +kernel
theorem dX6_left_203 : decode cX6_left 203 = .ok (.lload 13, 2) := by decide +kernel
theorem dX6_left_205 : decode cX6_left 205 = .ok (.goto 4, 3) := by decide +kernel
theorem dX6_left_208 : decode cX6_left 208 = .ok (.lconst 0, 1) := by decide +kernel
theorem dX6_left_209 : decode cX6_left 209 = .ok (.ladd, 1) := by decide +kernel
theorem dX6_left_210 : decode cX6_left 210 = .ok (.lstore 8, 2) := by decide +kernel
theorem dX6_left_212 : decode cX6_left 212 = .ok (.iinc 12 1, 3) := by decide +kernel
theorem dX6_left_215 : decode cX6_left 215 = .ok (.goto (-98), 3) := by decide +kernel
theorem dX6_left_218 : decode cX6_left 218 = .ok (.aload_n 0, 1) := by decide +kernel
theorem dX6_left_219 : decode cX6_left 219 = .ok (.lload 8, 2) := by decide +kernel
theorem dX6_left_221 : decode cX6_left 221 = .ok (.lload 10, 2) := by decide +kernel
theorem dX6_left_223 : decode cX6_left 223 = .ok (.invokevirtual 283, 3) := by decide +kernel
theorem dX6_left_226 : decode cX6_left 226 = .ok (.iconst 1, 1) := by decide +kernel
theorem dX6_left_227 : decode cX6_left 227 = .ok (.ireturn, 1) := by decide +kernel
theorem dX6_years_0 : decode cX6_years 0 = .ok (.iload_n 1, 1) := by decide +kernel
theorem dX6_years_1 : decode cX6_years 1 = .ok (.i2l, 1) := by decide +kernel
theorem dX6_years_2 : decode cX6_years 2 = .ok (.lconst 0, 1) := by decide +kernel
theorem dX6_years_3 : decode cX6_years 3 = .ok (.ldc2_w 287, 3) := by decide +kernel
theorem dX6_years_6 : decode cX6_years 6 = .ok (.invokestatic 86, 3) := by decide +kernel
theorem dX6_years_9 : decode cX6_years 9 = .ok (.ifCond .eq 15, 3) := by decide +kernel
theorem dX6_years_12 : decode cX6_years 12 = .ok (.iload_n 2, 1) := by decide +kernel
theorem dX6_years_13 : decode cX6_years 13 = .ok (.i2l, 1) := by decide +kernel
theorem dX6_years_14 : decode cX6_years 14 = .ok (.lconst 0, 1) := by decide +kernel
theorem dX6_years_15 : decode cX6_years 15 = .ok (.ldc2_w 219, 3) := by decide +kernel
theorem dX6_years_18 : decode cX6_years 18 = .ok (.invokestatic 86, 3) := by decide +kernel
theorem dX6_years_21 : decode cX6_years 21 = .ok (.ifCond .ne 8, 3) := by decide +kernel
theorem dX6_years_24 : decode cX6_years 24 = .ok (.aload_n 0, 1) := by decide +kernel
theorem dX6_years_25 : decode cX6_years 25 = .ok (.invokevirtual 100, 3) := by decide +kernel
theorem dX6_years_28 : decode cX6_years 28 = .ok (.ireturn, 1) := by decide +kernel
theorem dX6_years_29 : decode cX6_years 29 = .ok (.aload_n 0, 1) := by decide +kernel
theorem dX6_years_30 : decode cX6_years 30 = .ok (.invokevirtual 216, 3) := by decide +kernel
theorem dX6_years_33 : decode cX6_years 33 = .ok (.iload_n 1, 1) := by decide +kernel
theorem dX6_years_34 : decode cX6_years 34 = .ok (.i2l, 1) := by decide +kernel
theorem dX6_years_35 : decode cX6_years 35 = .ok (.lstore_n 3, 1) := by decide +kernel
theorem dX6_years_36 : decode cX6_years 36 = .ok (.iconst 0, 1) := by decide +kernel
theorem dX6_years_37 : decode cX6_years 37 = .ok (.istore 5, 2) := by decide +kernel
theorem dX6_years_39 : decode cX6_years 39 = .ok (.iload 5, 2) := by decide +kernel
theorem dX6_years_41 : decode cX6_years 41 = .ok (.iload_n 2, 1) := by decide +kernel
theorem dX6_years_42 : decode cX6_years 42 = .ok (.if_icmp .ge 91, 3) := by decide +kernel
theorem dX6_years_45 : decode cX6_years 45 = .ok (.lload_n 3, 1) := by decide +kernel
theorem dX6_years_46 : decode cX6_years 46 = .ok (.ldc2_w 289, 3) := by decide +kernel
theorem dX6_years_49 : decode cX6_years 49 = .ok (.lmul, 1) := by decide +kernel
theorem dX6_years_50 : decode cX6_years 50 = .ok (.ldc2_w 291, 3) := by decide +kernel
theorem dX6_years_53 : decode cX6_years 53 = .ok (.ladd, 1) := by decide +kernel
theorem dX6_years_54 : decode cX6_years 54 = .ok (.ldc2_w 293, 3) := by decide +kernel
theorem dX6_years_57 : decode cX6_years 57 = .ok (.lrem, 1) := by decide +kernel
theorem dX6_years_58 : decode cX6_years 58 = .ok (.lstore_n 3, 1) := by decide +kernel
theorem dX6_years_59 : decode cX6_years 59 = .ok (.lload_n 3, 1) := by decide +kernel
theorem dX6_years_60 : decode cX6_years 60 = .ok (.ldc2_w 295, 3) := by decide +kernel
theorem dX6_years_63 : decode cX6_years 63 = .ok (.ldiv, 1) := by decide +kernel
theorem dX6_years_64 : decode cX6_years 64 = .ok (.ldc2_w 92, 3) := by decide +kernel
theorem dX6_years_67 : decode cX6_years 67 = .ok (.lrem, 1) := by decide +kernel
theorem dX6_years_68 : decode cX6_years 68 = .ok (.l2i, 1) := by decide +kernel
theorem dX6_years_69 : decode cX6_years 69 = .ok (.istore 6, 2) := by decide +kernel
theorem dX6_years_71 : decode cX6_years 71 = .ok (.lload_n 3, 1) := by decide +kernel
theorem dX6_years_72 : decode cX6_years 72 = .ok (.ldc2_w 297, 3) := by decide +kernel
theorem dX6_years_75 : decode cX6_years 75 = .ok (.ldiv, 1) := by decide +kernel
theorem dX6_years_76 : decode cX6_years 76 = .ok (.ldc2_w 92, 3) := by decide +kernel
theorem dX6_years_79 : decode cX6_years 79 = .ok (.lrem, 1) := by decide +kernel
theorem dX6_years_80 : decode cX6_years 80 = .ok (.l2i, 1) := by decide +kernel
theorem dX6_years_81 : decode cX6_years 81 = .ok (.istore 7, 2) := by decide +kernel
theorem dX6_years_83 : decode cX6_years 83 = .ok (.aload_n 0, 1) := by decide +kernel
theorem dX6_years_84 : decode cX6_years 84 = .ok (.iload 6, 2) := by decide +kernel
theorem dX6_years_86 : decode cX6_years 86 = .ok (.invokevirtual 194, 3) := by decide +kernel
theorem dX6_years_89 : decode cX6_years 89 = .ok (.ifCond .eq 30, 3) := by decide +kernel
theorem dX6_years_92 : decode cX6_years 92 = .ok (.aload_n 0, 1) := by decide +kernel
theorem dX6_years_93 : decode cX6_years 93 = .ok (.iload 7, 2) := by decide +kernel
theorem dX6_years_95 : decode cX6_years 95 = .ok (.invokevirtual 194, 3) := by decide +kernel
theorem dX6_years_98 : decode cX6_years 98 = .ok (.ifCond .eq 21, 3) := by decide +kernel
theorem dX6_years_101 : decode cX6_years 101 = .ok (.iload 6, 2) := by decide +kernel
theorem dX6_years_103 : decode cX6_years 103 = .ok (.iload 7, 2) := by decide +kernel
theorem dX6_years_105 : decode cX6_years 105 = .ok (.if_icmp .eq 14, 3) := by decide +kernel
theorem dX6_years_108 : decode cX6_years 108 = .ok (.aload_n 0, 1) := by decide +kernel
theorem dX6_years_109 : decode cX6_years 109 = .ok (.getfield 16, 3) := by decide +kernel
theorem dX6_years_112 : decode cX6_years 112 = .ok (.iload 6, 2) := by decide +kernel
theorem dX6_years_114 : decode cX6_years 114 = .ok (.iload 7, 2) := by decide +kernel
theorem dX6_years_116 : decode cX6_years 116 = .ok (.invokestatic 206, 3) := by decide +kernel
theorem dX6_years_119 : decode cX6_years 119 = .ok (.aload_n 0, 1) := by decide +kernel
theorem dX6_years_120 : decode cX6_years 120 = .ok (.aload_n 0, 1) := by decide +kernel
theorem dX6_years_121 : decode cX6_years 121 = .ok (.getfield 16, 3) := by decide +kernel
theorem dX6_years_124 : decode cX6_years 124 = .ok (.invokevirtual 168, 3) := by decide +kernel
theorem dX6_years_127 : decode cX6_years 127 = .ok (.iinc 5 1, 3) := by decide +kernel
theorem dX6_years_130 : decode cX6_years 130 = .ok (.goto (-91), 3) := by decide +kernel
theorem dX6_years_133 : decode cX6_years 133 = .ok (.aload_n 0, 1) := by decide +kernel
theorem dX6_years_134 : decode cX6_years 134 = .ok (.aload_n 0, 1) := by decide +kernel
theorem dX6_years_135 : decode cX6_years 135 = .ok (.getfield 16, 3) := by decide +kernel
theorem dX6_years_138 : decode cX6_years 138 = .ok (.invokevirtual 212, 3) := by decide +kernel
theorem dX6_years_141 : decode cX6_years 141 = .ok (.ireturn, 1) := by decide +kernel
theorem dX6_part_0 : decode cX6_part 0 = .ok (.iload_n 1, 1) := by decide +kernel
theorem dX6_part_1 : decode cX6_part 1 = .ok (.ifCond .ne 10, 3) := by decide +kernel
theorem dX6_part_4 : decode cX6_part 4 = .ok (.aload_n 0, 1) := by decide +kernel
theorem dX6_part_5 : decode cX6_part 5 = .ok (.getfield 278, 3) := by decide +kernel
theorem dX6_part_8 : decode cX6_part 8 = .ok (.goto 20, 3) := by decide +kernel
theorem dX6_part_11 : decode cX6_part 11 = .ok (.iload_n 1, 1) := by decide +kernel
theorem dX6_part_12 : decode cX6_part 12 = .ok (.iconst 1, 1) := by decide +kernel
theorem dX6_part_13 : decode cX6_part 13 = .ok (.if_icmp .ne 10, 3) := by decide +kernel
theorem dX6_part_16 : decode cX6_part 16 = .ok (.aload_n 0, 1) := by decide +kernel
theorem dX6_part_17 : decode cX6_part 17 = .ok (.getfield 29, 3) := by decide +kernel
theorem dX6_part_20 : decode cX6_part 20 = .ok (.goto 8, 3) := by decide +kernel
theorem dX6_part_23 : decode cX6_part 23 = .ok (.aload_n 0, 1) := by decide +kernel
theorem dX6_part_24 : decode cX6_part 24 = .ok (.invokevirtual 100, 3) := by decide +kernel
theorem dX6_part_27 : decode cX6_part 27 = .ok (.i2l, 1) := by decide +kernel
theorem dX6_part_28 : decode cX6_part 28 = .ok (.lreturn, 1) := by decide +kernel
theorem dX6_image_0 : decode cX6_image 0 = .ok (.iload_n 1, 1) := by decide +kernel
theorem dX6_image_1 : decode cX6_image 1 = .ok (.i2l, 1) := by decide +kernel
theorem dX6_image_2 : decode cX6_image 2 = .ok (.lconst 0, 1) := by decide +kernel
theorem dX6_image_3 : decode cX6_image 3 = .ok (.lconst 1, 1) := by decide +kernel
theorem dX6_image_4 : decode cX6_image 4 = .ok (.invokestatic 86, 3) := by decide +kernel
theorem dX6_image_7 : decode cX6_image 7 = .ok (.ifCond .ne 8, 3) := by decide +kernel
theorem dX6_image_10 : decode cX6_image 10 = .ok (.aload_n 0, 1) := by decide +kernel
theorem dX6_image_11 : decode cX6_image 11 = .ok (.invokevirtual 100, 3) := by decide +kernel
theorem dX6_image_14 : decode cX6_image 14 = .ok (.ireturn, 1) := by decide +kernel
theorem dX6_image_15 : decode cX6_image 15 = .ok (.aload_n 0, 1) := by decide +kernel
theorem dX6_image_16 : decode cX6_image 16 = .ok (.getfield 7, 3) := by decide +kernel
theorem dX6_image_19 : decode cX6_image 19 = .ok (.iconst 0, 1) := by decide +kernel
theorem dX6_image_20 : decode cX6_image 20 = .ok (.aload_n 0, 1) := by decide +kernel
theorem dX6_image_21 : decode cX6_image 21 = .ok (.getfield 19, 3) := by decide +kernel
theorem dX6_image_24 : decode cX6_image 24 = .ok (.sipush 399, 3) := by decide +kernel
theorem dX6_image_27 : decode cX6_image 27 = .ok (.iload_n 1, 1) := by decide +kernel
theorem dX6_image_28 : decode cX6_image 28 = .ok (.imul, 1) := by decide +kernel
theorem dX6_image_29 : decode cX6_image 29 = .ok (.sipush 399, 3) := by decide +kernel
theorem dX6_image_32 : decode cX6_image 32 = .ok (.invokestatic 82, 3) := by decide +kernel
theorem dX6_image_35 : decode cX6_image 35 = .ok (.aload_n 0, 1) := by decide +kernel
theorem dX6_image_36 : decode cX6_image 36 = .ok (.getfield 22, 3) := by decide +kernel
theorem dX6_image_39 : decode cX6_image 39 = .ok (.iload_n 1, 1) := by decide +kernel
theorem dX6_image_40 : decode cX6_image 40 = .ok (.iconst 1, 1) := by decide +kernel
theorem dX6_image_41 : decode cX6_image 41 = .ok (.bastore, 1) := by decide +kernel
theorem dX6_image_42 : decode cX6_image 42 = .ok (.iconst 1, 1) := by decide +kernel
theorem dX6_image_43 : decode cX6_image 43 = .ok (.ireturn, 1) := by decide +kernel
theorem dX6_from_0 : decode cX6_from 0 = .ok (.iload_n 1, 1) := by decide +kernel
theorem dX6_from_1 : decode cX6_from 1 = .ok (.i2l, 1) := by decide +kernel
theorem dX6_from_2 : decode cX6_from 2 = .ok (.lconst 0, 1) := by decide +kernel
theorem dX6_from_3 : decode cX6_from 3 = .ok (.lconst 1, 1) := by decide +kernel
theorem dX6_from_4 : decode cX6_from 4 = .ok (.invokestatic 86, 3) := by decide +kernel
theorem dX6_from_7 : decode cX6_from 7 = .ok (.ifCond .ne 8, 3) := by decide +kernel
theorem dX6_from_10 : decode cX6_from 10 = .ok (.aload_n 0, 1) := by decide +kernel
theorem dX6_from_11 : decode cX6_from 11 = .ok (.invokevirtual 100, 3) := by decide +kernel
theorem dX6_from_14 : decode cX6_from 14 = .ok (.ireturn, 1) := by decide +kernel
theorem dX6_from_15 : decode cX6_from 15 = .ok (.aload_n 0, 1) := by decide +kernel
theorem dX6_from_16 : decode cX6_from 16 = .ok (.getfield 22, 3) := by decide +kernel
theorem dX6_from_19 : decode cX6_from 19 = .ok (.iload_n 1, 1) := by decide +kernel
theorem dX6_from_20 : decode cX6_from 20 = .ok (.baload, 1) := by decide +kernel
theorem dX6_from_21 : decode cX6_from 21 = .ok (.ifCond .ne 11, 3) := by decide +kernel
theorem dX6_from_24 : decode cX6_from 24 = .ok (.aload_n 0, 1) := by decide +kernel
theorem dX6_from_25 : decode cX6_from 25 = .ok (.iconst 1, 1) := by decide +kernel
theorem dX6_from_26 : decode cX6_from 26 = .ok (.bipush (-3), 2) := by decide +kernel
theorem dX6_from_28 : decode cX6_from 28 = .ok (.invokevirtual 52, 3) := by decide +kernel
theorem dX6_from_31 : decode cX6_from 31 = .ok (.ireturn, 1) := by decide +kernel
theorem dX6_from_32 : decode cX6_from 32 = .ok (.aload_n 0, 1) := by decide +kernel
theorem dX6_from_33 : decode cX6_from 33 = .ok (.getfield 19, 3) := by decide +kernel
theorem dX6_from_36 : decode cX6_from 36 = .ok (.sipush 399, 3) := by decide +kernel
theorem dX6_from_39 : decode cX6_from 39 = .ok (.iload_n 1, 1) := by decide +kernel
theorem dX6_from_40 : decode cX6_from 40 = .ok (.imul, 1) := by decide +kernel
theorem dX6_from_41 : decode cX6_from 41 = .ok (.aload_n 0, 1) := by decide +kernel
theorem dX6_from_42 : decode cX6_from 42 = .ok (.getfield 7, 3) := by decide +kernel
theorem dX6_from_45 : decode cX6_from 45 = .ok (.iconst 0, 1) := by decide +kernel
theorem dX6_from_46 : decode cX6_from 46 = .ok (.sipush 399, 3) := by decide +kernel
theorem dX6_from_49 : decode cX6_from 49 = .ok (.invokestatic 82, 3) := by decide +kernel
theorem dX6_from_52 : decode cX6_from 52 = .ok (.iconst 1, 1) := by decide +kernel
theorem dX6_from_53 : decode cX6_from 53 = .ok (.ireturn, 1) := by decide +kernel
theorem dX6_status_0 : decode cX6_status 0 = .ok (.iload_n 1, 1) := by decide +kernel
theorem dX6_status_1 : decode cX6_status 1 = .ok (.i2l, 1) := by decide +kernel
theorem dX6_status_2 : decode cX6_status 2 = .ok (.lconst 0, 1) := by decide +kernel
theorem dX6_status_3 : decode cX6_status 3 = .ok (.ldc2_w 254, 3) := by decide +kernel
theorem dX6_status_6 : decode cX6_status 6 = .ok (.invokestatic 86, 3) := by decide +kernel
theorem dX6_status_9 : decode cX6_status 9 = .ok (.ifCond .eq 12, 3) := by decide +kernel
theorem dX6_status_12 : decode cX6_status 12 = .ok (.aload_n 0, 1) := by decide +kernel
theorem dX6_status_13 : decode cX6_status 13 = .ok (.getfield 33, 3) := by decide +kernel
theorem dX6_status_16 : decode cX6_status 16 = .ok (.iload_n 1, 1) := by decide +kernel
theorem dX6_status_17 : decode cX6_status 17 = .ok (.iaload, 1) := by decide +kernel
theorem dX6_status_18 : decode cX6_status 18 = .ok (.goto 9, 3) := by decide +kernel
theorem dX6_status_21 : decode cX6_status 21 = .ok (.aload_n 0, 1) := by decide +kernel
theorem dX6_status_22 : decode cX6_status 22 = .ok (.iconst 0, 1) := by decide +kernel
theorem dX6_status_23 : decode cX6_status 23 = .ok (.iconst (-1), 1) := by decide +kernel
theorem dX6_status_24 : decode cX6_status 24 = .ok (.invokevirtual 52, 3) := by decide +kernel
theorem dX6_status_27 : decode cX6_status 27 = .ok (.ireturn, 1) := by decide +kernel
theorem dX6_sum_0 : decode cX6_sum 0 = .ok (.iconst 0, 1) := by decide +kernel
theorem dX6_sum_1 : decode cX6_sum 1 = .ok (.istore_n 3, 1) := by decide +kernel
theorem dX6_sum_2 : decode cX6_sum 2 = .ok (.iconst 0, 1) := by decide +kernel
theorem dX6_sum_3 : decode cX6_sum 3 = .ok (.istore 4, 2) := by decide +kernel
theorem dX6_sum_5 : decode cX6_sum 5 = .ok (.iload 4, 2) := by decide +kernel
theorem dX6_sum_7 : decode cX6_sum 7 = .ok (.iload_n 2, 1) := by decide +kernel
theorem dX6_sum_8 : decode cX6_sum 8 = .ok (.if_icmp .ge 21, 3) := by decide +kernel
theorem dX6_sum_11 : decode cX6_sum 11 = .ok (.iload_n 3, 1) := by decide +kernel
theorem dX6_sum_12 : decode cX6_sum 12 = .ok (.aload_n 0, 1) := by decide +kernel
theorem dX6_sum_13 : decode cX6_sum 13 = .ok (.getfield 7, 3) := by decide +kernel
theorem dX6_sum_16 : decode cX6_sum 16 = .ok (.iload_n 1, 1) := by decide +kernel
theorem dX6_sum_17 : decode cX6_sum 17 = .ok (.iload 4, 2) := by decide +kernel
theorem dX6_sum_19 : decode cX6_sum 19 = .ok (.iadd, 1) := by decide +kernel
theorem dX6_sum_20 : decode cX6_sum 20 = .ok (.iaload, 1) := by decide +kernel
theorem dX6_sum_21 : decode cX6_sum 21 = .ok (.iadd, 1) := by decide +kernel
theorem dX6_sum_22 : decode cX6_sum 22 = .ok (.istore_n 3, 1) := by decide +kernel
theorem dX6_sum_23 : decode cX6_sum 23 = .ok (.iinc 4 1, 3) := by decide +kernel
theorem dX6_sum_26 : decode cX6_sum 26 = .ok (.goto (-21), 3) := by decide +kernel
theorem dX6_sum_29 : decode cX6_sum 29 = .ok (.iload_n 3, 1) := by decide +kernel
theorem dX6_sum_30 : decode cX6_sum 30 = .ok (.ireturn, 1) := by decide +kernel
theorem dX6_whoSit_0 : decode cX6_whoSit 0 = .ok (.iconst 0, 1) := by decide +kernel
theorem dX6_whoSit_1 : decode cX6_whoSit 1 = .ok (.istore_n 1, 1) := by decide +kernel
theorem dX6_whoSit_2 : decode cX6_whoSit 2 = .ok (.iconst 0, 1) := by decide +kernel
theorem dX6_whoSit_3 : decode cX6_whoSit 3 = .ok (.istore_n 2, 1) := by decide +kernel
theorem dX6_whoSit_4 : decode cX6_whoSit 4 = .ok (.iload_n 2, 1) := by decide +kernel
theorem dX6_whoSit_5 : decode cX6_whoSit 5 = .ok (.aload_n 0, 1) := by decide +kernel
theorem dX6_whoSit_6 : decode cX6_whoSit 6 = .ok (.getfield 7, 3) := by decide +kernel
theorem dX6_whoSit_9 : decode cX6_whoSit 9 = .ok (.bipush 48, 2) := by decide +kernel
theorem dX6_whoSit_11 : decode cX6_whoSit 11 = .ok (.iaload, 1) := by decide +kernel
theorem dX6_whoSit_12 : decode cX6_whoSit 12 = .ok (.if_icmp .ge 31, 3) := by decide +kernel
theorem dX6_whoSit_15 : decode cX6_whoSit 15 = .ok (.iload_n 1, 1) := by decide +kernel
theorem dX6_whoSit_16 : decode cX6_whoSit 16 = .ok (.aload_n 0, 1) := by decide +kernel
theorem dX6_whoSit_17 : decode cX6_whoSit 17 = .ok (.getfield 7, 3) := by decide +kernel
theorem dX6_whoSit_20 : decode cX6_whoSit 20 = .ok (.iconst 0, 1) := by decide +kernel
theorem dX6_whoSit_21 : decode cX6_whoSit 21 = .ok (.iload_n 2, 1) := by decide +kernel
theorem dX6_whoSit_22 : decode cX6_whoSit 22 = .ok (.iadd, 1) := by decide +kernel
theorem dX6_whoSit_23 : decode cX6_whoSit 23 = .ok (.iaload, 1) := by decide +kernel
theorem dX6_whoSit_24 : decode cX6_whoSit 24 = .ok (.iconst (-1), 1) := by decide +kernel
theorem dX6_whoSit_25 : decode cX6_whoSit 25 = .ok (.if_icmp .ne 7, 3) := by decide +kernel
theorem dX6_whoSit_28 : decode cX6_whoSit 28 = .ok (.iconst 0, 1) := by decide +kernel
theorem dX6_whoSit_29 : decode cX6_whoSit 29 = .ok (.goto 6, 3) := by decide +kernel
theorem dX6_whoSit_32 : decode cX6_whoSit 32 = .ok (.iconst 1, 1) := by decide +kernel
theorem dX6_whoSit_33 : decode cX6_whoSit 33 = .ok (.iload_n 2, 1) := by decide +kernel
theorem dX6_whoSit_34 : decode cX6_whoSit 34 = .ok (.ishl, 1) := by decide +kernel
theorem dX6_whoSit_35 : decode cX6_whoSit 35 = .ok (.ior, 1) := by decide +kernel
theorem dX6_whoSit_36 : decode cX6_whoSit 36 = .ok (.istore_n 1, 1) := by decide +kernel
theorem dX6_whoSit_37 : decode cX6_whoSit 37 = .ok (.iinc 2 1, 3) := by decide +kernel
theorem dX6_whoSit_40 : decode cX6_whoSit 40 = .ok (.goto (-36), 3) := by decide +kernel
theorem dX6_whoSit_43 : decode cX6_whoSit 43 = .ok (.iload_n 1, 1) := by decide +kernel
theorem dX6_whoSit_44 : decode cX6_whoSit 44 = .ok (.ireturn, 1) := by decide +kernel
theorem dX6_counted_0 : decode cX6_counted 0 = .ok (.iload_n 1, 1) := by decide +kernel
theorem dX6_counted_1 : decode cX6_counted 1 = .ok (.tableswitch 134 0 9 #[55, 63, 71, 79, 84, 93, 101, 109, 117, 125], 55) := by decide +kernel
theorem dX6_counted_56 : decode cX6_counted 56 = .ok (.aload_n 0, 1) := by decide +kernel
theorem dX6_counted_57 : decode cX6_counted 57 = .ok (.getfield 7, 3) := by decide +kernel
theorem dX6_counted_60 : decode cX6_counted 60 = .ok (.bipush 33, 2) := by decide +kernel
theorem dX6_counted_62 : decode cX6_counted 62 = .ok (.iaload, 1) := by decide +kernel
theorem dX6_counted_63 : decode cX6_counted 63 = .ok (.ireturn, 1) := by decide +kernel
theorem dX6_counted_64 : decode cX6_counted 64 = .ok (.aload_n 0, 1) := by decide +kernel
theorem dX6_counted_65 : decode cX6_counted 65 = .ok (.getfield 7, 3) := by decide +kernel
theorem dX6_counted_68 : decode cX6_counted 68 = .ok (.bipush 48, 2) := by decide +kernel
theorem dX6_counted_70 : decode cX6_counted 70 = .ok (.iaload, 1) := by decide +kernel
theorem dX6_counted_71 : decode cX6_counted 71 = .ok (.ireturn, 1) := by decide +kernel
theorem dX6_counted_72 : decode cX6_counted 72 = .ok (.aload_n 0, 1) := by decide +kernel
theorem dX6_counted_73 : decode cX6_counted 73 = .ok (.getfield 7, 3) := by decide +kernel
theorem dX6_counted_76 : decode cX6_counted 76 = .ok (.bipush 32, 2) := by decide +kernel
theorem dX6_counted_78 : decode cX6_counted 78 = .ok (.iaload, 1) := by decide +kernel
theorem dX6_counted_79 : decode cX6_counted 79 = .ok (.ireturn, 1) := by decide +kernel
theorem dX6_counted_80 : decode cX6_counted 80 = .ok (.aload_n 0, 1) := by decide +kernel
theorem dX6_counted_81 : decode cX6_counted 81 = .ok (.invokevirtual 299, 3) := by decide +kernel
theorem dX6_counted_84 : decode cX6_counted 84 = .ok (.ireturn, 1) := by decide +kernel
theorem dX6_counted_85 : decode cX6_counted 85 = .ok (.aload_n 0, 1) := by decide +kernel
theorem dX6_counted_86 : decode cX6_counted 86 = .ok (.bipush 25, 2) := by decide +kernel
theorem dX6_counted_88 : decode cX6_counted 88 = .ok (.bipush 7, 2) := by decide +kernel
theorem dX6_counted_90 : decode cX6_counted 90 = .ok (.invokevirtual 302, 3) := by decide +kernel
theorem dX6_counted_93 : decode cX6_counted 93 = .ok (.ireturn, 1) := by decide +kernel
theorem dX6_counted_94 : decode cX6_counted 94 = .ok (.aload_n 0, 1) := by decide +kernel
theorem dX6_counted_95 : decode cX6_counted 95 = .ok (.iconst 5, 1) := by decide +kernel
theorem dX6_counted_96 : decode cX6_counted 96 = .ok (.bipush 20, 2) := by decide +kernel
theorem dX6_counted_98 : decode cX6_counted 98 = .ok (.invokevirtual 302, 3) := by decide +kernel
theorem dX6_counted_101 : decode cX6_counted 101 = .ok (.ireturn, 1) := by decide +kernel
theorem dX6_counted_102 : decode cX6_counted 102 = .ok (.aload_n 0, 1) := by decide +kernel
theorem dX6_counted_103 : decode cX6_counted 103 = .ok (.getfield 7, 3) := by decide +kernel
theorem dX6_counted_106 : decode cX6_counted 106 = .ok (.bipush 59, 2) := by decide +kernel
theorem dX6_counted_108 : decode cX6_counted 108 = .ok (.iaload, 1) := by decide +kernel
theorem dX6_counted_109 : decode cX6_counted 109 = .ok (.ireturn, 1) := by decide +kernel
theorem dX6_counted_110 : decode cX6_counted 110 = .ok (.aload_n 0, 1) := by decide +kernel
theorem dX6_counted_111 : decode cX6_counted 111 = .ok (.getfield 7, 3) := by decide +kernel
theorem dX6_counted_114 : decode cX6_counted 114 = .ok (.bipush 78, 2) := by decide +kernel
theorem dX6_counted_116 : decode cX6_counted 116 = .ok (.iaload, 1) := by decide +kernel
theorem dX6_counted_117 : decode cX6_counted 117 = .ok (.ireturn, 1) := by decide +kernel
theorem dX6_counted_118 : decode cX6_counted 118 = .ok (.aload_n 0, 1) := by decide +kernel
theorem dX6_counted_119 : decode cX6_counted 119 = .ok (.getfield 7, 3) := by decide +kernel
theorem dX6_counted_122 : decode cX6_counted 122 = .ok (.bipush 109, 2) := by decide +kernel
theorem dX6_counted_124 : decode cX6_counted 124 = .ok (.iaload, 1) := by decide +kernel
theorem dX6_counted_125 : decode cX6_counted 125 = .ok (.ireturn, 1) := by decide +kernel
theorem dX6_counted_126 : decode cX6_counted 126 = .ok (.aload_n 0, 1) := by decide +kernel
theorem dX6_counted_127 : decode cX6_counted 127 = .ok (.getfield 7, 3) := by decide +kernel
theorem dX6_counted_130 : decode cX6_counted 130 = .ok (.sipush 134, 3) := by decide +kernel
theorem dX6_counted_133 : decode cX6_counted 133 = .ok (.iaload, 1) := by decide +kernel
theorem dX6_counted_134 : decode cX6_counted 134 = .ok (.ireturn, 1) := by decide +kernel
theorem dX6_counted_135 : decode cX6_counted 135 = .ok (.aload_n 0, 1) := by decide +kernel
theorem dX6_counted_136 : decode cX6_counted 136 = .ok (.getfield 108, 3) := by decide +kernel
theorem dX6_counted_139 : decode cX6_counted 139 = .ok (.ireturn, 1) := by decide +kernel
theorem dX6_count_0 : decode cX6_count 0 = .ok (.iload_n 1, 1) := by decide +kernel
theorem dX6_count_1 : decode cX6_count 1 = .ok (.i2l, 1) := by decide +kernel
theorem dX6_count_2 : decode cX6_count 2 = .ok (.lconst 0, 1) := by decide +kernel
theorem dX6_count_3 : decode cX6_count 3 = .ok (.ldc2_w 281, 3) := by decide +kernel
theorem dX6_count_6 : decode cX6_count 6 = .ok (.invokestatic 86, 3) := by decide +kernel
theorem dX6_count_9 : decode cX6_count 9 = .ok (.ifCond .eq 11, 3) := by decide +kernel
theorem dX6_count_12 : decode cX6_count 12 = .ok (.aload_n 0, 1) := by decide +kernel
theorem dX6_count_13 : decode cX6_count 13 = .ok (.iload_n 1, 1) := by decide +kernel
theorem dX6_count_14 : decode cX6_count 14 = .ok (.invokevirtual 305, 3) := by decide +kernel
theorem dX6_count_17 : decode cX6_count 17 = .ok (.goto 7, 3) := by decide +kernel
theorem dX6_count_20 : decode cX6_count 20 = .ok (.aload_n 0, 1) := by decide +kernel
theorem dX6_count_21 : decode cX6_count 21 = .ok (.invokevirtual 100, 3) := by decide +kernel
theorem dX6_count_24 : decode cX6_count 24 = .ok (.ireturn, 1) := by decide +kernel
theorem dX6_digests_0 : decode cX6_digests 0 = .ok (.iconst 0, 1) := by decide +kernel
theorem dX6_digests_1 : decode cX6_digests 1 = .ok (.istore_n 3, 1) := by decide +kernel
theorem dX6_digests_2 : decode cX6_digests 2 = .ok (.iload_n 3, 1) := by decide +kernel
theorem dX6_digests_3 : decode cX6_digests 3 = .ok (.iload_n 2, 1) := by decide +kernel
theorem dX6_digests_4 : decode cX6_digests 4 = .ok (.if_icmp .ge 31, 3) := by decide +kernel
theorem dX6_digests_7 : decode cX6_digests 7 = .ok (.aload_n 0, 1) := by decide +kernel
theorem dX6_digests_8 : decode cX6_digests 8 = .ok (.ldc2_w 308, 3) := by decide +kernel
theorem dX6_digests_11 : decode cX6_digests 11 = .ok (.aload_n 0, 1) := by decide +kernel
theorem dX6_digests_12 : decode cX6_digests 12 = .ok (.getfield 310, 3) := by decide +kernel
theorem dX6_digests_15 : decode cX6_digests 15 = .ok (.lmul, 1) := by decide +kernel
theorem dX6_digests_16 : decode cX6_digests 16 = .ok (.aload_n 0, 1) := by decide +kernel
theorem dX6_digests_17 : decode cX6_digests 17 = .ok (.getfield 7, 3) := by decide +kernel
theorem dX6_digests_20 : decode cX6_digests 20 = .ok (.iload_n 1, 1) := by decide +kernel
theorem dX6_digests_21 : decode cX6_digests 21 = .ok (.iload_n 3, 1) := by decide +kernel
theorem dX6_digests_22 : decode cX6_digests 22 = .ok (.iadd, 1) := by decide +kernel
theorem dX6_digests_23 : decode cX6_digests 23 = .ok (.iaload, 1) := by decide +kernel
theorem dX6_digests_24 : decode cX6_digests 24 = .ok (.i2l, 1) := by decide +kernel
theorem dX6_digests_25 : decode cX6_digests 25 = .ok (.ladd, 1) := by decide +kernel
theorem dX6_digests_26 : decode cX6_digests 26 = .ok (.putfield 310, 3) := by decide +kernel
theorem dX6_digests_29 : decode cX6_digests 29 = .ok (.iinc 3 1, 3) := by decide +kernel
theorem dX6_digests_32 : decode cX6_digests 32 = .ok (.goto (-30), 3) := by decide +kernel
theorem dX6_digests_35 : decode cX6_digests 35 = .ok (.return_, 1) := by decide +kernel
theorem dX6_digest_0 : decode cX6_digest 0 = .ok (.aload_n 0, 1) := by decide +kernel
theorem dX6_digest_1 : decode cX6_digest 1 = .ok (.ldc2_w 313, 3) := by decide +kernel
theorem dX6_digest_4 : decode cX6_digest 4 = .ok (.putfield 310, 3) := by decide +kernel
theorem dX6_digest_7 : decode cX6_digest 7 = .ok (.iconst 0, 1) := by decide +kernel
theorem dX6_digest_8 : decode cX6_digest 8 = .ok (.istore_n 1, 1) := by decide +kernel
theorem dX6_digest_9 : decode cX6_digest 9 = .ok (.iload_n 1, 1) := by decide +kernel
theorem dX6_digest_10 : decode cX6_digest 10 = .ok (.bipush 11, 2) := by decide +kernel
theorem dX6_digest_12 : decode cX6_digest 12 = .ok (.if_icmp .ge 28, 3) := by decide +kernel
theorem dX6_digest_15 : decode cX6_digest 15 = .ok (.aload_n 0, 1) := by decide +kernel
theorem dX6_digest_16 : decode cX6_digest 16 = .ok (.ldc2_w 308, 3) := by decide +kernel
theorem dX6_digest_19 : decode cX6_digest 19 = .ok (.aload_n 0, 1) := by decide +kernel
theorem dX6_digest_20 : decode cX6_digest 20 = .ok (.getfield 310, 3) := by decide +kernel
theorem dX6_digest_23 : decode cX6_digest 23 = .ok (.lmul, 1) := by decide +kernel
theorem dX6_digest_24 : decode cX6_digest 24 = .ok (.aload_n 0, 1) := by decide +kernel
theorem dX6_digest_25 : decode cX6_digest 25 = .ok (.iload_n 1, 1) := by decide +kernel
theorem dX6_digest_26 : decode cX6_digest 26 = .ok (.invokevirtual 305, 3) := by decide +kernel
theorem dX6_digest_29 : decode cX6_digest 29 = .ok (.i2l, 1) := by decide +kernel
theorem dX6_digest_30 : decode cX6_digest 30 = .ok (.ladd, 1) := by decide +kernel
theorem dX6_digest_31 : decode cX6_digest 31 = .ok (.putfield 310, 3) := by decide +kernel
theorem dX6_digest_34 : decode cX6_digest 34 = .ok (.iinc 1 1, 3) := by decide +kernel
theorem dX6_digest_37 : decode cX6_digest 37 = .ok (.goto (-28), 3) := by decide +kernel
theorem dX6_digest_40 : decode cX6_digest 40 = .ok (.iconst 0, 1) := by decide +kernel
theorem dX6_digest_41 : decode cX6_digest 41 = .ok (.istore_n 1, 1) := by decide +kernel
theorem dX6_digest_42 : decode cX6_digest 42 = .ok (.iload_n 1, 1) := by decide +kernel
theorem dX6_digest_43 : decode cX6_digest 43 = .ok (.aload_n 0, 1) := by decide +kernel
theorem dX6_digest_44 : decode cX6_digest 44 = .ok (.getfield 7, 3) := by decide +kernel
theorem dX6_digest_47 : decode cX6_digest 47 = .ok (.bipush 33, 2) := by decide +kernel
theorem dX6_digest_49 : decode cX6_digest 49 = .ok (.iaload, 1) := by decide +kernel
theorem dX6_digest_50 : decode cX6_digest 50 = .ok (.if_icmp .ge 36, 3) := by decide +kernel
theorem dX6_digest_53 : decode cX6_digest 53 = .ok (.aload_n 0, 1) := by decide +kernel
theorem dX6_digest_54 : decode cX6_digest 54 = .ok (.bipush 34, 2) := by decide +kernel
theorem dX6_digest_56 : decode cX6_digest 56 = .ok (.iload_n 1, 1) := by decide +kernel
theorem dX6_digest_57 : decode cX6_digest 57 = .ok (.iadd, 1) := by decide +kernel
theorem dX6_digest_58 : decode cX6_digest 58 = .ok (.iconst 1, 1) := by decide +kernel
theorem dX6_digest_59 : decode cX6_digest 59 = .ok (.invokevirtual 315, 3) := by decide +kernel
theorem dX6_digest_62 : decode cX6_digest 62 = .ok (.aload_n 0, 1) := by decide +kernel
theorem dX6_digest_63 : decode cX6_digest 63 = .ok (.bipush 41, 2) := by decide +kernel
theorem dX6_digest_65 : decode cX6_digest 65 = .ok (.iload_n 1, 1) := by decide +kernel
theorem dX6_digest_66 : decode cX6_digest 66 = .ok (.iadd, 1) := by decide +kernel
theorem dX6_digest_67 : decode cX6_digest 67 = .ok (.iconst 1, 1) := by decide +kernel
theorem dX6_digest_68 : decode cX6_digest 68 = .ok (.invokevirtual 315, 3) := by decide +kernel
theorem dX6_digest_71 : decode cX6_digest 71 = .ok (.aload_n 0, 1) := by decide +kernel
theorem dX6_digest_72 : decode cX6_digest 72 = .ok (.bipush 25, 2) := by decide +kernel
theorem dX6_digest_74 : decode cX6_digest 74 = .ok (.iload_n 1, 1) := by decide +kernel
theorem dX6_digest_75 : decode cX6_digest 75 = .ok (.iadd, 1) := by decide +kernel
theorem dX6_digest_76 : decode cX6_digest 76 = .ok (.iconst 1, 1) := by decide +kernel
theorem dX6_digest_77 : decode cX6_digest 77 = .ok (.invokevirtual 315, 3) := by decide +kernel
theorem dX6_digest_80 : decode cX6_digest 80 = .ok (.iinc 1 1, 3) := by decide +kernel
theorem dX6_digest_83 : decode cX6_digest 83 = .ok (.goto (-41), 3) := by decide +kernel
theorem dX6_digest_86 : decode cX6_digest 86 = .ok (.iconst 0, 1) := by decide +kernel
theorem dX6_digest_87 : decode cX6_digest 87 = .ok (.istore_n 1, 1) := by decide +kernel
theorem dX6_digest_88 : decode cX6_digest 88 = .ok (.iload_n 1, 1) := by decide +kernel
theorem dX6_digest_89 : decode cX6_digest 89 = .ok (.aload_n 0, 1) := by decide +kernel
theorem dX6_digest_90 : decode cX6_digest 90 = .ok (.getfield 7, 3) := by decide +kernel
theorem dX6_digest_93 : decode cX6_digest 93 = .ok (.bipush 48, 2) := by decide +kernel
theorem dX6_digest_95 : decode cX6_digest 95 = .ok (.iaload, 1) := by decide +kernel
theorem dX6_digest_96 : decode cX6_digest 96 = .ok (.if_icmp .ge 45, 3) := by decide +kernel
theorem dX6_digest_99 : decode cX6_digest 99 = .ok (.aload_n 0, 1) := by decide +kernel
theorem dX6_digest_100 : decode cX6_digest 100 = .ok (.bipush 49, 2) := by decide +kernel
theorem dX6_digest_102 : decode cX6_digest 102 = .ok (.iload_n 1, 1) := by decide +kernel
theorem dX6_digest_103 : decode cX6_digest 103 = .ok (.iadd, 1) := by decide +kernel
theorem dX6_digest_104 : decode cX6_digest 104 = .ok (.iconst 1, 1) := by decide +kernel
theorem dX6_digest_105 : decode cX6_digest 105 = .ok (.invokevirtual 315, 3) := by decide +kernel
theorem dX6_digest_108 : decode cX6_digest 108 = .ok (.aload_n 0, 1) := by decide +kernel
theorem dX6_digest_109 : decode cX6_digest 109 = .ok (.bipush 54, 2) := by decide +kernel
theorem dX6_digest_111 : decode cX6_digest 111 = .ok (.iload_n 1, 1) := by decide +kernel
theorem dX6_digest_112 : decode cX6_digest 112 = .ok (.iadd, 1) := by decide +kernel
theorem dX6_digest_113 : decode cX6_digest 113 = .ok (.iconst 1, 1) := by decide +kernel
theorem dX6_digest_114 : decode cX6_digest 114 = .ok (.invokevirtual 315, 3) := by decide +kernel
theorem dX6_digest_117 : decode cX6_digest 117 = .ok (.aload_n 0, 1) := by decide +kernel
theorem dX6_digest_118 : decode cX6_digest 118 = .ok (.iconst 0, 1) := by decide +kernel
theorem dX6_digest_119 : decode cX6_digest 119 = .ok (.iload_n 1, 1) := by decide +kernel
theorem dX6_digest_120 : decode cX6_digest 120 = .ok (.iadd, 1) := by decide +kernel
theorem dX6_digest_121 : decode cX6_digest 121 = .ok (.iconst 1, 1) := by decide +kernel
theorem dX6_digest_122 : decode cX6_digest 122 = .ok (.invokevirtual 315, 3) := by decide +kernel
theorem dX6_digest_125 : decode cX6_digest 125 = .ok (.aload_n 0, 1) := by decide +kernel
theorem dX6_digest_126 : decode cX6_digest 126 = .ok (.iconst 5, 1) := by decide +kernel
theorem dX6_digest_127 : decode cX6_digest 127 = .ok (.iconst 4, 1) := by decide +kernel
theorem dX6_digest_128 : decode cX6_digest 128 = .ok (.iload_n 1, 1) := by decide +kernel
theorem dX6_digest_129 : decode cX6_digest 129 = .ok (.imul, 1) := by decide +kernel
theorem dX6_digest_130 : decode cX6_digest 130 = .ok (.iadd, 1) := by decide +kernel
theorem dX6_digest_131 : decode cX6_digest 131 = .ok (.iconst 4, 1) := by decide +kernel
theorem dX6_digest_132 : decode cX6_digest 132 = .ok (.invokevirtual 315, 3) := by decide +kernel
theorem dX6_digest_135 : decode cX6_digest 135 = .ok (.iinc 1 1, 3) := by decide +kernel
theorem dX6_digest_138 : decode cX6_digest 138 = .ok (.goto (-50), 3) := by decide +kernel
theorem dX6_digest_141 : decode cX6_digest 141 = .ok (.aload_n 0, 1) := by decide +kernel
theorem dX6_digest_142 : decode cX6_digest 142 = .ok (.bipush 60, 2) := by decide +kernel
theorem dX6_digest_144 : decode cX6_digest 144 = .ok (.iconst 3, 1) := by decide +kernel
theorem dX6_digest_145 : decode cX6_digest 145 = .ok (.aload_n 0, 1) := by decide +kernel
theorem dX6_digest_146 : decode cX6_digest 146 = .ok (.getfield 7, 3) := by decide +kernel
theorem dX6_digest_149 : decode cX6_digest 149 = .ok (.bipush 59, 2) := by decide +kernel
theorem dX6_digest_151 : decode cX6_digest 151 = .ok (.iaload, 1) := by decide +kernel
theorem dX6_digest_152 : decode cX6_digest 152 = .ok (.imul, 1) := by decide +kernel
theorem dX6_digest_153 : decode cX6_digest 153 = .ok (.invokevirtual 315, 3) := by decide +kernel
theorem dX6_digest_156 : decode cX6_digest 156 = .ok (.aload_n 0, 1) := by decide +kernel
theorem dX6_digest_157 : decode cX6_digest 157 = .ok (.bipush 79, 2) := by decide +kernel
theorem dX6_digest_159 : decode cX6_digest 159 = .ok (.iconst 5, 1) := by decide +kernel
theorem dX6_digest_160 : decode cX6_digest 160 = .ok (.aload_n 0, 1) := by decide +kernel
theorem dX6_digest_161 : decode cX6_digest 161 = .ok (.getfield 7, 3) := by decide +kernel
theorem dX6_digest_164 : decode cX6_digest 164 = .ok (.bipush 78, 2) := by decide +kernel
theorem dX6_digest_166 : decode cX6_digest 166 = .ok (.iaload, 1) := by decide +kernel
theorem dX6_digest_167 : decode cX6_digest 167 = .ok (.imul, 1) := by decide +kernel
theorem dX6_digest_168 : decode cX6_digest 168 = .ok (.invokevirtual 315, 3) := by decide +kernel
theorem dX6_digest_171 : decode cX6_digest 171 = .ok (.aload_n 0, 1) := by decide +kernel
theorem dX6_digest_172 : decode cX6_digest 172 = .ok (.bipush 110, 2) := by decide +kernel
theorem dX6_digest_174 : decode cX6_digest 174 = .ok (.iconst 4, 1) := by decide +kernel
theorem dX6_digest_175 : decode cX6_digest 175 = .ok (.aload_n 0, 1) := by decide +kernel
theorem dX6_digest_176 : decode cX6_digest 176 = .ok (.getfield 7, 3) := by decide +kernel
theorem dX6_digest_179 : decode cX6_digest 179 = .ok (.bipush 109, 2) := by decide +kernel
theorem dX6_digest_181 : decode cX6_digest 181 = .ok (.iaload, 1) := by decide +kernel
theorem dX6_digest_182 : decode cX6_digest 182 = .ok (.imul, 1) := by decide +kernel
theorem dX6_digest_183 : decode cX6_digest 183 = .ok (.invokevirtual 315, 3) := by decide +kernel
theorem dX6_digest_186 : decode cX6_digest 186 = .ok (.ldc2_w 308, 3) := by decide +kernel
theorem dX6_digest_189 : decode cX6_digest 189 = .ok (.ldc2_w 308, 3) := by decide +kernel
theorem dX6_digest_192 : decode cX6_digest 192 = .ok (.aload_n 0, 1) := by decide +kernel
theorem dX6_digest_193 : decode cX6_digest 193 = .ok (.getfield 310, 3) := by decide +kernel
theorem dX6_digest_196 : decode cX6_digest 196 = .ok (.lmul, 1) := by decide +kernel
theorem dX6_digest_197 : decode cX6_digest 197 = .ok (.aload_n 0, 1) := by decide +kernel
theorem dX6_digest_198 : decode cX6_digest 198 = .ok (.getfield 278, 3) := by decide +kernel
theorem dX6_digest_201 : decode cX6_digest 201 = .ok (.ladd, 1) := by decide +kernel
theorem dX6_digest_202 : decode cX6_digest 202 = .ok (.lmul, 1) := by decide +kernel
theorem dX6_digest_203 : decode cX6_digest 203 = .ok (.aload_n 0, 1) := by decide +kernel
theorem dX6_digest_204 : decode cX6_digest 204 = .ok (.getfield 29, 3) := by decide +kernel
theorem dX6_digest_207 : decode cX6_digest 207 = .ok (.ladd, 1) := by decide +kernel
theorem dX6_digest_208 : decode cX6_digest 208 = .ok (.lreturn, 1) := by decide +kernel
theorem dJ9_max_7cf53_0 : decode cJ9_max_7cf53 0 = .ok (.iload_n 0, 1) := by decide +kernel
theorem dJ9_max_7cf53_1 : decode cJ9_max_7cf53 1 = .ok (.iload_n 1, 1) := by decide +kernel
theorem dJ9_max_7cf53_2 : decode cJ9_max_7cf53 2 = .ok (.if_icmp .lt 7, 3) := by decide +kernel
theorem dJ9_max_7cf53_5 : decode cJ9_max_7cf53 5 = .ok (.iload_n 0, 1) := by decide +kernel
theorem dJ9_max_7cf53_6 : decode cJ9_max_7cf53 6 = .ok (.goto 4, 3) := by decide +kernel
theorem dJ9_max_7cf53_9 : decode cJ9_max_7cf53 9 = .ok (.iload_n 1, 1) := by decide +kernel
theorem dJ9_max_7cf53_10 : decode cJ9_max_7cf53 10 = .ok (.ireturn, 1) := by decide +kernel
theorem dJ9_min_7cf53_0 : decode cJ9_min_7cf53 0 = .ok (.iload_n 0, 1) := by decide +kernel
theorem dJ9_min_7cf53_1 : decode cJ9_min_7cf53 1 = .ok (.iload_n 1, 1) := by decide +kernel
theorem dJ9_min_7cf53_2 : decode cJ9_min_7cf53 2 = .ok (.if_icmp .gt 7, 3) := by decide +kernel
theorem dJ9_min_7cf53_5 : decode cJ9_min_7cf53 5 = .ok (.iload_n 0, 1) := by decide +kernel
theorem dJ9_min_7cf53_6 : decode cJ9_min_7cf53 6 = .ok (.goto 4, 3) := by decide +kernel
theorem dJ9_min_7cf53_9 : decode cJ9_min_7cf53 9 = .ok (.iload_n 1, 1) := by decide +kernel
theorem dJ9_min_7cf53_10 : decode cJ9_min_7cf53 10 = .ok (.ireturn, 1) := by decide +kernel
theorem dJ0_length_8abf5_0 : decode cJ0_length_8abf5 0 = .ok (.aload_n 0, 1) := by decide +kernel
theorem dJ0_length_8abf5_1 : decode cJ0_length_8abf5 1 = .ok (.getfield 9, 3) := by decide +kernel
theorem dJ0_length_8abf5_4 : decode cJ0_length_8abf5 4 = .ok (.arraylength, 1) := by decide +kernel
theorem dJ0_length_8abf5_5 : decode cJ0_length_8abf5 5 = .ok (.aload_n 0, 1) := by decide +kernel
theorem dJ0_length_8abf5_6 : decode cJ0_length_8abf5 6 = .ok (.invokevirtual 335, 3) := by decide +kernel
theorem dJ0_length_8abf5_9 : decode cJ0_length_8abf5 9 = .ok (.ishr, 1) := by decide +kernel
theorem dJ0_length_8abf5_10 : decode cJ0_length_8abf5 10 = .ok (.ireturn, 1) := by decide +kernel
theorem dJ0_charAt_5068e_0 : decode cJ0_charAt_5068e 0 = .ok (.aload_n 0, 1) := by decide +kernel
theorem dJ0_charAt_5068e_1 : decode cJ0_charAt_5068e 1 = .ok (.invokevirtual 492, 3) := by decide +kernel
theorem dJ0_charAt_5068e_4 : decode cJ0_charAt_5068e 4 = .ok (.ifCond .eq 12, 3) := by decide +kernel
theorem dJ0_charAt_5068e_7 : decode cJ0_charAt_5068e 7 = .ok (.aload_n 0, 1) := by decide +kernel
theorem dJ0_charAt_5068e_8 : decode cJ0_charAt_5068e 8 = .ok (.getfield 9, 3) := by decide +kernel
theorem dJ0_charAt_5068e_11 : decode cJ0_charAt_5068e 11 = .ok (.iload_n 1, 1) := by decide +kernel
theorem dJ0_charAt_5068e_12 : decode cJ0_charAt_5068e 12 = .ok (.invokestatic 495, 3) := by decide +kernel
theorem dJ0_charAt_5068e_15 : decode cJ0_charAt_5068e 15 = .ok (.ireturn, 1) := by decide +kernel
theorem dJ0_charAt_5068e_16 : decode cJ0_charAt_5068e 16 = .ok (.aload_n 0, 1) := by decide +kernel
theorem dJ0_charAt_5068e_17 : decode cJ0_charAt_5068e 17 = .ok (.getfield 9, 3) := by decide +kernel
theorem dJ0_charAt_5068e_20 : decode cJ0_charAt_5068e 20 = .ok (.iload_n 1, 1) := by decide +kernel
theorem dJ0_charAt_5068e_21 : decode cJ0_charAt_5068e 21 = .ok (.invokestatic 498, 3) := by decide +kernel
theorem dJ0_charAt_5068e_24 : decode cJ0_charAt_5068e 24 = .ok (.ireturn, 1) := by decide +kernel
theorem dJ0_coder_7d493_0 : decode cJ0_coder_7d493 0 = .ok (.getstatic 38, 3) := by decide +kernel
theorem dJ0_coder_7d493_3 : decode cJ0_coder_7d493 3 = .ok (.ifCond .eq 10, 3) := by decide +kernel
theorem dJ0_coder_7d493_6 : decode cJ0_coder_7d493 6 = .ok (.aload_n 0, 1) := by decide +kernel
theorem dJ0_coder_7d493_7 : decode cJ0_coder_7d493 7 = .ok (.getfield 15, 3) := by decide +kernel
theorem dJ0_coder_7d493_10 : decode cJ0_coder_7d493 10 = .ok (.goto 4, 3) := by decide +kernel
theorem dJ0_coder_7d493_13 : decode cJ0_coder_7d493 13 = .ok (.iconst 1, 1) := by decide +kernel
theorem dJ0_coder_7d493_14 : decode cJ0_coder_7d493 14 = .ok (.ireturn, 1) := by decide +kernel
theorem dJ0_isLatin1_aae02_0 : decode cJ0_isLatin1_aae02 0 = .ok (.getstatic 38, 3) := by decide +kernel
theorem dJ0_isLatin1_aae02_3 : decode cJ0_isLatin1_aae02 3 = .ok (.ifCond .eq 14, 3) := by decide +kernel
theorem dJ0_isLatin1_aae02_6 : decode cJ0_isLatin1_aae02 6 = .ok (.aload_n 0, 1) := by decide +kernel
theorem dJ0_isLatin1_aae02_7 : decode cJ0_isLatin1_aae02 7 = .ok (.getfield 15, 3) := by decide +kernel
theorem dJ0_isLatin1_aae02_10 : decode cJ0_isLatin1_aae02 10 = .ok (.ifCond .ne 7, 3) := by decide +kernel
theorem dJ0_isLatin1_aae02_13 : decode cJ0_isLatin1_aae02 13 = .ok (.iconst 1, 1) := by decide +kernel
theorem dJ0_isLatin1_aae02_14 : decode cJ0_isLatin1_aae02 14 = .ok (.goto 4, 3) := by decide +kernel
theorem dJ0_isLatin1_aae02_17 : decode cJ0_isLatin1_aae02 17 = .ok (.iconst 0, 1) := by decide +kernel
theorem dJ0_isLatin1_aae02_18 : decode cJ0_isLatin1_aae02 18 = .ok (.ireturn, 1) := by decide +kernel
theorem dJ0_checkIndex_df160_0 : decode cJ0_checkIndex_df160 0 = .ok (.iload_n 0, 1) := by decide +kernel
theorem dJ0_checkIndex_df160_1 : decode cJ0_checkIndex_df160 1 = .ok (.iload_n 1, 1) := by decide +kernel
theorem dJ0_checkIndex_df160_2 : decode cJ0_checkIndex_df160 2 = .ok (.getstatic 1053, 3) := by decide +kernel
theorem dJ0_checkIndex_df160_5 : decode cJ0_checkIndex_df160 5 = .ok (.invokestatic 1059, 3) := by decide +kernel
theorem dJ0_checkIndex_df160_8 : decode cJ0_checkIndex_df160 8 = .ok (.pop, 1) := by decide +kernel
theorem dJ0_checkIndex_df160_9 : decode cJ0_checkIndex_df160 9 = .ok (.return_, 1) := by decide +kernel
theorem dJ1_charAt_3b067_0 : decode cJ1_charAt_3b067 0 = .ok (.iload_n 1, 1) := by decide +kernel
theorem dJ1_charAt_3b067_1 : decode cJ1_charAt_3b067 1 = .ok (.aload_n 0, 1) := by decide +kernel
theorem dJ1_charAt_3b067_2 : decode cJ1_charAt_3b067 2 = .ok (.arraylength, 1) := by decide +kernel
theorem dJ1_charAt_3b067_3 : decode cJ1_charAt_3b067 3 = .ok (.invokestatic 9, 3) := by decide +kernel
theorem dJ1_charAt_3b067_6 : decode cJ1_charAt_3b067 6 = .ok (.aload_n 0, 1) := by decide +kernel
theorem dJ1_charAt_3b067_7 : decode cJ1_charAt_3b067 7 = .ok (.iload_n 1, 1) := by decide +kernel
theorem dJ1_charAt_3b067_8 : decode cJ1_charAt_3b067 8 = .ok (.baload, 1) := by decide +kernel
theorem dJ1_charAt_3b067_9 : decode cJ1_charAt_3b067 9 = .ok (.sipush 255, 3) := by decide +kernel
theorem dJ1_charAt_3b067_12 : decode cJ1_charAt_3b067 12 = .ok (.iand, 1) := by decide +kernel
theorem dJ1_charAt_3b067_13 : decode cJ1_charAt_3b067 13 = .ok (.i2c, 1) := by decide +kernel
theorem dJ1_charAt_3b067_14 : decode cJ1_charAt_3b067 14 = .ok (.ireturn, 1) := by decide +kernel
