theorem dX10_fits_73 : decode cX10_fits 73 = .ok (.iload 6, 2) := by decide +kernel
theorem dX10_fits_75 : decode cX10_fits 75 = .ok (.aload_n 0, 1) := by decide +kernel
theorem dX10_fits_76 : decode cX10_fits 76 = .ok (.invokevirtual 331, 3) := by decide +kernel
theorem dX10_fits_79 : decode cX10_fits 79 = .ok (.if_icmp .gt 83, 3) := by decide +kernel
theorem dX10_fits_82 : decode cX10_fits 82 = .ok (.iload 6, 2) := by decide +kernel
theorem dX10_fits_84 : decode cX10_fits 84 = .ok (.iload_n 2, 1) := by decide +kernel
theorem dX10_fits_85 : decode cX10_fits 85 = .ok (.iconst (-1), 1) := by decide +kernel
theorem dX10_fits_86 : decode cX10_fits 86 = .ok (.ixor, 1) := by decide +kernel
theorem dX10_fits_87 : decode cX10_fits 87 = .ok (.iand, 1) := by decide +kernel
theorem dX10_fits_88 : decode cX10_fits 88 = .ok (.ifCond .ne 68, 3) := by decide +kernel
theorem dX10_fits_91 : decode cX10_fits 91 = .ok (.iload_n 1, 1) := by decide +kernel
theorem dX10_fits_92 : decode cX10_fits 92 = .ok (.aload_n 0, 1) := by decide +kernel
theorem dX10_fits_93 : decode cX10_fits 93 = .ok (.iload 6, 2) := by decide +kernel
theorem dX10_fits_95 : decode cX10_fits 95 = .ok (.invokevirtual 334, 3) := by decide +kernel
theorem dX10_fits_98 : decode cX10_fits 98 = .ok (.iconst (-1), 1) := by decide +kernel
theorem dX10_fits_99 : decode cX10_fits 99 = .ok (.ixor, 1) := by decide +kernel
theorem dX10_fits_100 : decode cX10_fits 100 = .ok (.iand, 1) := by decide +kernel
theorem dX10_fits_101 : decode cX10_fits 101 = .ok (.ifCond .eq 6, 3) := by decide +kernel
theorem dX10_fits_104 : decode cX10_fits 104 = .ok (.goto 52, 3) := by decide +kernel
theorem dX10_fits_107 : decode cX10_fits 107 = .ok (.iinc 3 1, 3) := by decide +kernel
theorem dX10_fits_110 : decode cX10_fits 110 = .ok (.iload 4, 2) := by decide +kernel
theorem dX10_fits_112 : decode cX10_fits 112 = .ok (.iconst (-1), 1) := by decide +kernel
theorem dX10_fits_113 : decode cX10_fits 113 = .ok (.if_icmp .eq 16, 3) := by decide +kernel
theorem dX10_fits_116 : decode cX10_fits 116 = .ok (.iload 6, 2) := by decide +kernel
theorem dX10_fits_118 : decode cX10_fits 118 = .ok (.invokestatic 280, 3) := by decide +kernel
theorem dX10_fits_121 : decode cX10_fits 121 = .ok (.iload 4, 2) := by decide +kernel
theorem dX10_fits_123 : decode cX10_fits 123 = .ok (.invokestatic 280, 3) := by decide +kernel
theorem dX10_fits_126 : decode cX10_fits 126 = .ok (.if_icmp .ge 7, 3) := by decide +kernel
theorem dX10_fits_129 : decode cX10_fits 129 = .ok (.iload 6, 2) := by decide +kernel
theorem dX10_fits_131 : decode cX10_fits 131 = .ok (.istore 4, 2) := by decide +kernel
theorem dX10_fits_133 : decode cX10_fits 133 = .ok (.iload 5, 2) := by decide +kernel
theorem dX10_fits_135 : decode cX10_fits 135 = .ok (.iconst (-1), 1) := by decide +kernel
theorem dX10_fits_136 : decode cX10_fits 136 = .ok (.if_icmp .eq 16, 3) := by decide +kernel
theorem dX10_fits_139 : decode cX10_fits 139 = .ok (.iload 6, 2) := by decide +kernel
theorem dX10_fits_141 : decode cX10_fits 141 = .ok (.invokestatic 280, 3) := by decide +kernel
theorem dX10_fits_144 : decode cX10_fits 144 = .ok (.iload 5, 2) := by decide +kernel
theorem dX10_fits_146 : decode cX10_fits 146 = .ok (.invokestatic 280, 3) := by decide +kernel
theorem dX10_fits_149 : decode cX10_fits 149 = .ok (.if_icmp .le 7, 3) := by decide +kernel
theorem dX10_fits_152 : decode cX10_fits 152 = .ok (.iload 6, 2) := by decide +kernel
theorem dX10_fits_154 : decode cX10_fits 154 = .ok (.istore 5, 2) := by decide +kernel
theorem dX10_fits_156 : decode cX10_fits 156 = .ok (.iinc 6 1, 3) := by decide +kernel
theorem dX10_fits_159 : decode cX10_fits 159 = .ok (.goto (-86), 3) := by decide +kernel
theorem dX10_fits_162 : decode cX10_fits 162 = .ok (.aload_n 0, 1) := by decide +kernel
theorem dX10_fits_163 : decode cX10_fits 163 = .ok (.iconst 0, 1) := by decide +kernel
theorem dX10_fits_164 : decode cX10_fits 164 = .ok (.putfield 91, 3) := by decide +kernel
theorem dX10_fits_167 : decode cX10_fits 167 = .ok (.aload_n 0, 1) := by decide +kernel
theorem dX10_fits_168 : decode cX10_fits 168 = .ok (.iload 4, 2) := by decide +kernel
theorem dX10_fits_170 : decode cX10_fits 170 = .ok (.invokevirtual 322, 3) := by decide +kernel
theorem dX10_fits_173 : decode cX10_fits 173 = .ok (.aload_n 0, 1) := by decide +kernel
theorem dX10_fits_174 : decode cX10_fits 174 = .ok (.iload 5, 2) := by decide +kernel
theorem dX10_fits_176 : decode cX10_fits 176 = .ok (.invokevirtual 322, 3) := by decide +kernel
theorem dX10_fits_179 : decode cX10_fits 179 = .ok (.iload_n 3, 1) := by decide +kernel
theorem dX10_fits_180 : decode cX10_fits 180 = .ok (.ireturn, 1) := by decide +kernel
theorem dX10_leaned_0 : decode cX10_leaned 0 = .ok (.aload_n 0, 1) := by decide +kernel
theorem dX10_leaned_1 : decode cX10_leaned 1 = .ok (.iconst 0, 1) := by decide +kernel
theorem dX10_leaned_2 : decode cX10_leaned 2 = .ok (.putfield 87, 3) := by decide +kernel
theorem dX10_leaned_5 : decode cX10_leaned 5 = .ok (.aload_n 0, 1) := by decide +kernel
theorem dX10_leaned_6 : decode cX10_leaned 6 = .ok (.iload_n 1, 1) := by decide +kernel
theorem dX10_leaned_7 : decode cX10_leaned 7 = .ok (.invokevirtual 237, 3) := by decide +kernel
theorem dX10_leaned_10 : decode cX10_leaned 10 = .ok (.ifCond .eq 11, 3) := by decide +kernel
theorem dX10_leaned_13 : decode cX10_leaned 13 = .ok (.aload_n 0, 1) := by decide +kernel
theorem dX10_leaned_14 : decode cX10_leaned 14 = .ok (.iload_n 2, 1) := by decide +kernel
theorem dX10_leaned_15 : decode cX10_leaned 15 = .ok (.invokevirtual 251, 3) := by decide +kernel
theorem dX10_leaned_18 : decode cX10_leaned 18 = .ok (.ifCond .ne 5, 3) := by decide +kernel
theorem dX10_leaned_21 : decode cX10_leaned 21 = .ok (.iconst (-1), 1) := by decide +kernel
theorem dX10_leaned_22 : decode cX10_leaned 22 = .ok (.ireturn, 1) := by decide +kernel
theorem dX10_leaned_23 : decode cX10_leaned 23 = .ok (.aload_n 0, 1) := by decide +kernel
theorem dX10_leaned_24 : decode cX10_leaned 24 = .ok (.iload_n 1, 1) := by decide +kernel
theorem dX10_leaned_25 : decode cX10_leaned 25 = .ok (.iload_n 2, 1) := by decide +kernel
theorem dX10_leaned_26 : decode cX10_leaned 26 = .ok (.invokevirtual 351, 3) := by decide +kernel
theorem dX10_leaned_29 : decode cX10_leaned 29 = .ok (.istore_n 3, 1) := by decide +kernel
theorem dX10_leaned_30 : decode cX10_leaned 30 = .ok (.iload_n 3, 1) := by decide +kernel
theorem dX10_leaned_31 : decode cX10_leaned 31 = .ok (.bipush 30, 2) := by decide +kernel
theorem dX10_leaned_33 : decode cX10_leaned 33 = .ok (.if_icmp .le 8, 3) := by decide +kernel
theorem dX10_leaned_36 : decode cX10_leaned 36 = .ok (.bipush (-2), 2) := by decide +kernel
theorem dX10_leaned_38 : decode cX10_leaned 38 = .ok (.goto 4, 3) := by decide +kernel
theorem dX10_leaned_41 : decode cX10_leaned 41 = .ok (.iload_n 3, 1) := by decide +kernel
theorem dX10_leaned_42 : decode cX10_leaned 42 = .ok (.ireturn, 1) := by decide +kernel
theorem dX10_draw_0 : decode cX10_draw 0 = .ok (.aload_n 0, 1) := by decide +kernel
theorem dX10_draw_1 : decode cX10_draw 1 = .ok (.aload_n 0, 1) := by decide +kernel
theorem dX10_draw_2 : decode cX10_draw 2 = .ok (.getfield 400, 3) := by decide +kernel
theorem dX10_draw_5 : decode cX10_draw 5 = .ok (.ldc_w 403, 3) := by decide +kernel
theorem dX10_draw_8 : decode cX10_draw 8 = .ok (.imul, 1) := by decide +kernel
theorem dX10_draw_9 : decode cX10_draw 9 = .ok (.sipush 12345, 3) := by decide +kernel
theorem dX10_draw_12 : decode cX10_draw 12 = .ok (.iadd, 1) := by decide +kernel
theorem dX10_draw_13 : decode cX10_draw 13 = .ok (.putfield 400, 3) := by decide +kernel
theorem dX10_draw_16 : decode cX10_draw 16 = .ok (.aload_n 0, 1) := by decide +kernel
theorem dX10_draw_17 : decode cX10_draw 17 = .ok (.getfield 400, 3) := by decide +kernel
theorem dX10_draw_20 : decode cX10_draw 20 = .ok (.bipush 16, 2) := by decide +kernel
theorem dX10_draw_22 : decode cX10_draw 22 = .ok (.iushr, 1) := by decide +kernel
theorem dX10_draw_23 : decode cX10_draw 23 = .ok (.iload_n 1, 1) := by decide +kernel
theorem dX10_draw_24 : decode cX10_draw 24 = .ok (.irem, 1) := by decide +kernel
theorem dX10_draw_25 : decode cX10_draw 25 = .ok (.ireturn, 1) := by decide +kernel
theorem dX10_autumn_0 : decode cX10_autumn 0 = .ok (.aload_n 0, 1) := by decide +kernel
theorem dX10_autumn_1 : decode cX10_autumn 1 = .ok (.iconst 0, 1) := by decide +kernel
theorem dX10_autumn_2 : decode cX10_autumn 2 = .ok (.putfield 87, 3) := by decide +kernel
theorem dX10_autumn_5 : decode cX10_autumn 5 = .ok (.iload_n 2, 1) := by decide +kernel
theorem dX10_autumn_6 : decode cX10_autumn 6 = .ok (.iconst 1, 1) := by decide +kernel
theorem dX10_autumn_7 : decode cX10_autumn 7 = .ok (.bipush 30, 2) := by decide +kernel
theorem dX10_autumn_9 : decode cX10_autumn 9 = .ok (.invokestatic 97, 3) := by decide +kernel
theorem dX10_autumn_12 : decode cX10_autumn 12 = .ok (.ifCond .eq 13, 3) := by decide +kernel
theorem dX10_autumn_15 : decode cX10_autumn 15 = .ok (.iload_n 3, 1) := by decide +kernel
theorem dX10_autumn_16 : decode cX10_autumn 16 = .ok (.iconst 0, 1) := by decide +kernel
theorem dX10_autumn_17 : decode cX10_autumn 17 = .ok (.bipush 10, 2) := by decide +kernel
theorem dX10_autumn_19 : decode cX10_autumn 19 = .ok (.invokestatic 97, 3) := by decide +kernel
theorem dX10_autumn_22 : decode cX10_autumn 22 = .ok (.ifCond .ne 5, 3) := by decide +kernel
theorem dX10_autumn_25 : decode cX10_autumn 25 = .ok (.iconst (-1), 1) := by decide +kernel
theorem dX10_autumn_26 : decode cX10_autumn 26 = .ok (.ireturn, 1) := by decide +kernel
theorem dX10_autumn_27 : decode cX10_autumn 27 = .ok (.aload_n 0, 1) := by decide +kernel
theorem dX10_autumn_28 : decode cX10_autumn 28 = .ok (.iload_n 1, 1) := by decide +kernel
theorem dX10_autumn_29 : decode cX10_autumn 29 = .ok (.putfield 400, 3) := by decide +kernel
theorem dX10_autumn_32 : decode cX10_autumn 32 = .ok (.aload_n 0, 1) := by decide +kernel
theorem dX10_autumn_33 : decode cX10_autumn 33 = .ok (.aload_n 0, 1) := by decide +kernel
theorem dX10_autumn_34 : decode cX10_autumn 34 = .ok (.getfield 9, 3) := by decide +kernel
theorem dX10_autumn_37 : decode cX10_autumn 37 = .ok (.iconst 0, 1) := by decide +kernel
theorem dX10_autumn_38 : decode cX10_autumn 38 = .ok (.invokevirtual 244, 3) := by decide +kernel
theorem dX10_autumn_41 : decode cX10_autumn 41 = .ok (.istore 4, 2) := by decide +kernel
theorem dX10_autumn_43 : decode cX10_autumn 43 = .ok (.iconst 0, 1) := by decide +kernel
theorem dX10_autumn_44 : decode cX10_autumn 44 = .ok (.istore 5, 2) := by decide +kernel
theorem dX10_autumn_46 : decode cX10_autumn 46 = .ok (.iconst 0, 1) := by decide +kernel
theorem dX10_autumn_47 : decode cX10_autumn 47 = .ok (.istore 6, 2) := by decide +kernel
theorem dX10_autumn_49 : decode cX10_autumn 49 = .ok (.iconst (-1), 1) := by decide +kernel
theorem dX10_autumn_50 : decode cX10_autumn 50 = .ok (.istore 7, 2) := by decide +kernel
theorem dX10_autumn_52 : decode cX10_autumn 52 = .ok (.iconst 1, 1) := by decide +kernel
theorem dX10_autumn_53 : decode cX10_autumn 53 = .ok (.istore 8, 2) := by decide +kernel
theorem dX10_autumn_55 : decode cX10_autumn 55 = .ok (.iload 8, 2) := by decide +kernel
theorem dX10_autumn_57 : decode cX10_autumn 57 = .ok (.iload_n 2, 1) := by decide +kernel
theorem dX10_autumn_58 : decode cX10_autumn 58 = .ok (.if_icmp .gt 123, 3) := by decide +kernel
theorem dX10_autumn_61 : decode cX10_autumn 61 = .ok (.iload 4, 2) := by decide +kernel
theorem dX10_autumn_63 : decode cX10_autumn 63 = .ok (.aload_n 0, 1) := by decide +kernel
theorem dX10_autumn_64 : decode cX10_autumn 64 = .ok (.bipush 9, 2) := by decide +kernel
theorem dX10_autumn_66 : decode cX10_autumn 66 = .ok (.aload_n 0, 1) := by decide +kernel
theorem dX10_autumn_67 : decode cX10_autumn 67 = .ok (.getfield 9, 3) := by decide +kernel
theorem dX10_autumn_70 : decode cX10_autumn 70 = .ok (.bipush 19, 2) := by decide +kernel
theorem dX10_autumn_72 : decode cX10_autumn 72 = .ok (.iaload, 1) := by decide +kernel
theorem dX10_autumn_73 : decode cX10_autumn 73 = .ok (.iload 8, 2) := by decide +kernel
theorem dX10_autumn_75 : decode cX10_autumn 75 = .ok (.iadd, 1) := by decide +kernel
theorem dX10_autumn_76 : decode cX10_autumn 76 = .ok (.invokestatic 224, 3) := by decide +kernel
theorem dX10_autumn_79 : decode cX10_autumn 79 = .ok (.invokevirtual 301, 3) := by decide +kernel
theorem dX10_autumn_82 : decode cX10_autumn 82 = .ok (.iand, 1) := by decide +kernel
theorem dX10_autumn_83 : decode cX10_autumn 83 = .ok (.istore 9, 2) := by decide +kernel
theorem dX10_autumn_85 : decode cX10_autumn 85 = .ok (.iconst 0, 1) := by decide +kernel
theorem dX10_autumn_86 : decode cX10_autumn 86 = .ok (.istore 10, 2) := by decide +kernel
theorem dX10_autumn_88 : decode cX10_autumn 88 = .ok (.iconst 0, 1) := by decide +kernel
theorem dX10_autumn_89 : decode cX10_autumn 89 = .ok (.istore 11, 2) := by decide +kernel
theorem dX10_autumn_91 : decode cX10_autumn 91 = .ok (.iload 11, 2) := by decide +kernel
theorem dX10_autumn_93 : decode cX10_autumn 93 = .ok (.aload_n 0, 1) := by decide +kernel
theorem dX10_autumn_94 : decode cX10_autumn 94 = .ok (.getfield 94, 3) := by decide +kernel
theorem dX10_autumn_97 : decode cX10_autumn 97 = .ok (.if_icmp .ge 38, 3) := by decide +kernel
theorem dX10_autumn_100 : decode cX10_autumn 100 = .ok (.iload 9, 2) := by decide +kernel
theorem dX10_autumn_102 : decode cX10_autumn 102 = .ok (.iload 11, 2) := by decide +kernel
theorem dX10_autumn_104 : decode cX10_autumn 104 = .ok (.invokestatic 227, 3) := by decide +kernel
theorem dX10_autumn_107 : decode cX10_autumn 107 = .ok (.ifCond .eq 22, 3) := by decide +kernel
theorem dX10_autumn_110 : decode cX10_autumn 110 = .ok (.aload_n 0, 1) := by decide +kernel
theorem dX10_autumn_111 : decode cX10_autumn 111 = .ok (.bipush 10, 2) := by decide +kernel
theorem dX10_autumn_113 : decode cX10_autumn 113 = .ok (.invokevirtual 404, 3) := by decide +kernel
theorem dX10_autumn_116 : decode cX10_autumn 116 = .ok (.iload_n 3, 1) := by decide +kernel
theorem dX10_autumn_117 : decode cX10_autumn 117 = .ok (.if_icmp .ge 12, 3) := by decide +kernel
theorem dX10_autumn_120 : decode cX10_autumn 120 = .ok (.iload 10, 2) := by decide +kernel
theorem dX10_autumn_122 : decode cX10_autumn 122 = .ok (.iconst 1, 1) := by decide +kernel
theorem dX10_autumn_123 : decode cX10_autumn 123 = .ok (.iload 11, 2) := by decide +kernel
theorem dX10_autumn_125 : decode cX10_autumn 125 = .ok (.ishl, 1) := by decide +kernel
theorem dX10_autumn_126 : decode cX10_autumn 126 = .ok (.ior, 1) := by decide +kernel
theorem dX10_autumn_127 : decode cX10_autumn 127 = .ok (.istore 10, 2) := by decide +kernel
theorem dX10_autumn_129 : decode cX10_autumn 129 = .ok (.iinc 11 1, 3) := by decide +kernel
theorem dX10_autumn_132 : decode cX10_autumn 132 = .ok (.goto (-41), 3) := by decide +kernel
theorem dX10_autumn_135 : decode cX10_autumn 135 = .ok (.iload 4, 2) := by decide +kernel
theorem dX10_autumn_137 : decode cX10_autumn 137 = .ok (.iload 10, 2) := by decide +kernel
theorem dX10_autumn_139 : decode cX10_autumn 139 = .ok (.iconst (-1), 1) := by decide +kernel
theorem dX10_autumn_140 : decode cX10_autumn 140 = .ok (.ixor, 1) := by decide +kernel
theorem dX10_autumn_141 : decode cX10_autumn 141 = .ok (.iand, 1) := by decide +kernel
theorem dX10_autumn_142 : decode cX10_autumn 142 = .ok (.istore 4, 2) := by decide +kernel
theorem dX10_autumn_144 : decode cX10_autumn 144 = .ok (.iload 5, 2) := by decide +kernel
theorem dX10_autumn_146 : decode cX10_autumn 146 = .ok (.iload 10, 2) := by decide +kernel
theorem dX10_autumn_148 : decode cX10_autumn 148 = .ok (.ior, 1) := by decide +kernel
theorem dX10_autumn_149 : decode cX10_autumn 149 = .ok (.istore 5, 2) := by decide +kernel
theorem dX10_autumn_151 : decode cX10_autumn 151 = .ok (.iload 10, 2) := by decide +kernel
theorem dX10_autumn_153 : decode cX10_autumn 153 = .ok (.invokestatic 280, 3) := by decide +kernel
theorem dX10_autumn_156 : decode cX10_autumn 156 = .ok (.iload 6, 2) := by decide +kernel
theorem dX10_autumn_158 : decode cX10_autumn 158 = .ok (.if_icmp .gt 6, 3) := by decide +kernel
theorem dX10_autumn_161 : decode cX10_autumn 161 = .ok (.goto 14, 3) := by decide +kernel
theorem dX10_autumn_164 : decode cX10_autumn 164 = .ok (.iload 10, 2) := by decide +kernel
theorem dX10_autumn_166 : decode cX10_autumn 166 = .ok (.invokestatic 280, 3) := by decide +kernel
theorem dX10_autumn_169 : decode cX10_autumn 169 = .ok (.istore 6, 2) := by decide +kernel
theorem dX10_autumn_171 : decode cX10_autumn 171 = .ok (.iload 8, 2) := by decide +kernel
theorem dX10_autumn_173 : decode cX10_autumn 173 = .ok (.istore 7, 2) := by decide +kernel
theorem dX10_autumn_175 : decode cX10_autumn 175 = .ok (.iinc 8 1, 3) := by decide +kernel
theorem dX10_autumn_178 : decode cX10_autumn 178 = .ok (.goto (-123), 3) := by decide +kernel
theorem dX10_autumn_181 : decode cX10_autumn 181 = .ok (.aload_n 0, 1) := by decide +kernel
theorem dX10_autumn_182 : decode cX10_autumn 182 = .ok (.iconst 0, 1) := by decide +kernel
theorem dX10_autumn_183 : decode cX10_autumn 183 = .ok (.putfield 91, 3) := by decide +kernel
theorem dX10_autumn_186 : decode cX10_autumn 186 = .ok (.aload_n 0, 1) := by decide +kernel
theorem dX10_autumn_187 : decode cX10_autumn 187 = .ok (.iload 5, 2) := by decide +kernel
theorem dX10_autumn_189 : decode cX10_autumn 189 = .ok (.invokevirtual 322, 3) := by decide +kernel
theorem dX10_autumn_192 : decode cX10_autumn 192 = .ok (.aload_n 0, 1) := by decide +kernel
theorem dX10_autumn_193 : decode cX10_autumn 193 = .ok (.aload_n 0, 1) := by decide +kernel
theorem dX10_autumn_194 : decode cX10_autumn 194 = .ok (.iload 5, 2) := by decide +kernel
theorem dX10_autumn_196 : decode cX10_autumn 196 = .ok (.aload_n 0, 1) := by decide +kernel
theorem dX10_autumn_197 : decode cX10_autumn 197 = .ok (.getfield 9, 3) := by decide +kernel
theorem dX10_autumn_200 : decode cX10_autumn 200 = .ok (.bipush 16, 2) := by decide +kernel
theorem dX10_autumn_202 : decode cX10_autumn 202 = .ok (.iaload, 1) := by decide +kernel
theorem dX10_autumn_203 : decode cX10_autumn 203 = .ok (.invokevirtual 325, 3) := by decide +kernel
theorem dX10_autumn_206 : decode cX10_autumn 206 = .ok (.invokevirtual 322, 3) := by decide +kernel
theorem dX10_autumn_209 : decode cX10_autumn 209 = .ok (.aload_n 0, 1) := by decide +kernel
theorem dX10_autumn_210 : decode cX10_autumn 210 = .ok (.iload 7, 2) := by decide +kernel
theorem dX10_autumn_212 : decode cX10_autumn 212 = .ok (.invokevirtual 322, 3) := by decide +kernel
theorem dX10_autumn_215 : decode cX10_autumn 215 = .ok (.iload 5, 2) := by decide +kernel
theorem dX10_autumn_217 : decode cX10_autumn 217 = .ok (.invokestatic 280, 3) := by decide +kernel
theorem dX10_autumn_220 : decode cX10_autumn 220 = .ok (.ireturn, 1) := by decide +kernel
theorem dX10_keep_0 : decode cX10_keep 0 = .ok (.aload_n 0, 1) := by decide +kernel
theorem dX10_keep_1 : decode cX10_keep 1 = .ok (.iconst 0, 1) := by decide +kernel
theorem dX10_keep_2 : decode cX10_keep 2 = .ok (.putfield 87, 3) := by decide +kernel
theorem dX10_keep_5 : decode cX10_keep 5 = .ok (.iload_n 1, 1) := by decide +kernel
theorem dX10_keep_6 : decode cX10_keep 6 = .ok (.iconst 0, 1) := by decide +kernel
theorem dX10_keep_7 : decode cX10_keep 7 = .ok (.iconst 1, 1) := by decide +kernel
theorem dX10_keep_8 : decode cX10_keep 8 = .ok (.invokestatic 97, 3) := by decide +kernel
theorem dX10_keep_11 : decode cX10_keep 11 = .ok (.ifCond .ne 5, 3) := by decide +kernel
theorem dX10_keep_14 : decode cX10_keep 14 = .ok (.iconst 0, 1) := by decide +kernel
theorem dX10_keep_15 : decode cX10_keep 15 = .ok (.ireturn, 1) := by decide +kernel
theorem dX10_keep_16 : decode cX10_keep 16 = .ok (.aload_n 0, 1) := by decide +kernel
theorem dX10_keep_17 : decode cX10_keep 17 = .ok (.getfield 80, 3) := by decide +kernel
theorem dX10_keep_20 : decode cX10_keep 20 = .ok (.iload_n 1, 1) := by decide +kernel
theorem dX10_keep_21 : decode cX10_keep 21 = .ok (.iconst 1, 1) := by decide +kernel
theorem dX10_keep_22 : decode cX10_keep 22 = .ok (.bastore, 1) := by decide +kernel
theorem dX10_keep_23 : decode cX10_keep 23 = .ok (.aload_n 0, 1) := by decide +kernel
theorem dX10_keep_24 : decode cX10_keep 24 = .ok (.getfield 84, 3) := by decide +kernel
theorem dX10_keep_27 : decode cX10_keep 27 = .ok (.iload_n 1, 1) := by decide +kernel
theorem dX10_keep_28 : decode cX10_keep 28 = .ok (.aload_n 0, 1) := by decide +kernel
theorem dX10_keep_29 : decode cX10_keep 29 = .ok (.getfield 162, 3) := by decide +kernel
theorem dX10_keep_32 : decode cX10_keep 32 = .ok (.iastore, 1) := by decide +kernel
theorem dX10_keep_33 : decode cX10_keep 33 = .ok (.aload_n 0, 1) := by decide +kernel
theorem dX10_keep_34 : decode cX10_keep 34 = .ok (.getfield 9, 3) := by decide +kernel
theorem dX10_keep_37 : decode cX10_keep 37 = .ok (.aload_n 0, 1) := by decide +kernel
theorem dX10_keep_38 : decode cX10_keep 38 = .ok (.getfield 77, 3) := by decide +kernel
theorem dX10_keep_41 : decode cX10_keep 41 = .ok (.bipush 21, 2) := by decide +kernel
theorem dX10_keep_43 : decode cX10_keep 43 = .ok (.iload_n 1, 1) := by decide +kernel
theorem dX10_keep_44 : decode cX10_keep 44 = .ok (.imul, 1) := by decide +kernel
theorem dX10_keep_45 : decode cX10_keep 45 = .ok (.invokestatic 257, 3) := by decide +kernel
theorem dX10_keep_48 : decode cX10_keep 48 = .ok (.iconst 1, 1) := by decide +kernel
theorem dX10_keep_49 : decode cX10_keep 49 = .ok (.ireturn, 1) := by decide +kernel
theorem dX10_again_0 : decode cX10_again 0 = .ok (.aload_n 0, 1) := by decide +kernel
theorem dX10_again_1 : decode cX10_again 1 = .ok (.iconst 0, 1) := by decide +kernel
theorem dX10_again_2 : decode cX10_again 2 = .ok (.putfield 87, 3) := by decide +kernel
theorem dX10_again_5 : decode cX10_again 5 = .ok (.iload_n 1, 1) := by decide +kernel
theorem dX10_again_6 : decode cX10_again 6 = .ok (.iconst 0, 1) := by decide +kernel
theorem dX10_again_7 : decode cX10_again 7 = .ok (.iconst 1, 1) := by decide +kernel
theorem dX10_again_8 : decode cX10_again 8 = .ok (.invokestatic 97, 3) := by decide +kernel
theorem dX10_again_11 : decode cX10_again 11 = .ok (.ifCond .eq 25, 3) := by decide +kernel
theorem dX10_again_14 : decode cX10_again 14 = .ok (.aload_n 0, 1) := by decide +kernel
theorem dX10_again_15 : decode cX10_again 15 = .ok (.getfield 80, 3) := by decide +kernel
theorem dX10_again_18 : decode cX10_again 18 = .ok (.iload_n 1, 1) := by decide +kernel
theorem dX10_again_19 : decode cX10_again 19 = .ok (.baload, 1) := by decide +kernel
theorem dX10_again_20 : decode cX10_again 20 = .ok (.ifCond .eq 16, 3) := by decide +kernel
theorem dX10_again_23 : decode cX10_again 23 = .ok (.aload_n 0, 1) := by decide +kernel
theorem dX10_again_24 : decode cX10_again 24 = .ok (.getfield 84, 3) := by decide +kernel
theorem dX10_again_27 : decode cX10_again 27 = .ok (.iload_n 1, 1) := by decide +kernel
theorem dX10_again_28 : decode cX10_again 28 = .ok (.iaload, 1) := by decide +kernel
theorem dX10_again_29 : decode cX10_again 29 = .ok (.aload_n 0, 1) := by decide +kernel
theorem dX10_again_30 : decode cX10_again 30 = .ok (.getfield 162, 3) := by decide +kernel
theorem dX10_again_33 : decode cX10_again 33 = .ok (.if_icmp .eq 5, 3) := by decide +kernel
theorem dX10_again_36 : decode cX10_again 36 = .ok (.iconst 0, 1) := by decide +kernel
theorem dX10_again_37 : decode cX10_again 37 = .ok (.ireturn, 1) := by decide +kernel
theorem dX10_again_38 : decode cX10_again 38 = .ok (.iconst 0, 1) := by decide +kernel
theorem dX10_again_39 : decode cX10_again 39 = .ok (.istore_n 2, 1) := by decide +kernel
theorem dX10_again_40 : decode cX10_again 40 = .ok (.iload_n 2, 1) := by decide +kernel
theorem dX10_again_41 : decode cX10_again 41 = .ok (.bipush 21, 2) := by decide +kernel
theorem dX10_again_43 : decode cX10_again 43 = .ok (.if_icmp .ge 26, 3) := by decide +kernel
theorem dX10_again_46 : decode cX10_again 46 = .ok (.aload_n 0, 1) := by decide +kernel
theorem dX10_again_47 : decode cX10_again 47 = .ok (.getfield 9, 3) := by decide +kernel
theorem dX10_again_50 : decode cX10_again 50 = .ok (.iload_n 2, 1) := by decide +kernel
theorem dX10_again_51 : decode cX10_again 51 = .ok (.aload_n 0, 1) := by decide +kernel
theorem dX10_again_52 : decode cX10_again 52 = .ok (.getfield 77, 3) := by decide +kernel
theorem dX10_again_55 : decode cX10_again 55 = .ok (.bipush 21, 2) := by decide +kernel
theorem dX10_again_57 : decode cX10_again 57 = .ok (.iload_n 1, 1) := by decide +kernel
theorem dX10_again_58 : decode cX10_again 58 = .ok (.imul, 1) := by decide +kernel
theorem dX10_again_59 : decode cX10_again 59 = .ok (.iload_n 2, 1) := by decide +kernel
theorem dX10_again_60 : decode cX10_again 60 = .ok (.iadd, 1) := by decide +kernel
theorem dX10_again_61 : decode cX10_again 61 = .ok (.iaload, 1) := by decide +kernel
theorem dX10_again_62 : decode cX10_again 62 = .ok (.iastore, 1) := by decide +kernel
theorem dX10_again_63 : decode cX10_again 63 = .ok (.iinc 2 1, 3) := by decide +kernel
theorem dX10_again_66 : decode cX10_again 66 = .ok (.goto (-26), 3) := by decide +kernel
theorem dX10_again_69 : decode cX10_again 69 = .ok (.aload_n 0, 1) := by decide +kernel
theorem dX10_again_70 : decode cX10_again 70 = .ok (.iconst 0, 1) := by decide +kernel
theorem dX10_again_71 : decode cX10_again 71 = .ok (.putfield 159, 3) := by decide +kernel
theorem dX10_again_74 : decode cX10_again 74 = .ok (.iconst 1, 1) := by decide +kernel
theorem dX10_again_75 : decode cX10_again 75 = .ok (.ireturn, 1) := by decide +kernel
theorem dX10_count_0 : decode cX10_count 0 = .ok (.aload_n 0, 1) := by decide +kernel
theorem dX10_count_1 : decode cX10_count 1 = .ok (.iconst 0, 1) := by decide +kernel
theorem dX10_count_2 : decode cX10_count 2 = .ok (.putfield 87, 3) := by decide +kernel
theorem dX10_count_5 : decode cX10_count 5 = .ok (.iload_n 1, 1) := by decide +kernel
theorem dX10_count_6 : decode cX10_count 6 = .ok (.tableswitch 160 0 13 #[70, 75, 80, 88, 96, 104, 104, 104, 104, 116, 124, 145, 150, 155], 70) := by decide +kernel
theorem dX10_count_76 : decode cX10_count 76 = .ok (.aload_n 0, 1) := by decide +kernel
theorem dX10_count_77 : decode cX10_count 77 = .ok (.getfield 94, 3) := by decide +kernel
theorem dX10_count_80 : decode cX10_count 80 = .ok (.ireturn, 1) := by decide +kernel
theorem dX10_count_81 : decode cX10_count 81 = .ok (.aload_n 0, 1) := by decide +kernel
theorem dX10_count_82 : decode cX10_count 82 = .ok (.getfield 101, 3) := by decide +kernel
theorem dX10_count_85 : decode cX10_count 85 = .ok (.ireturn, 1) := by decide +kernel
theorem dX10_count_86 : decode cX10_count 86 = .ok (.aload_n 0, 1) := by decide +kernel
theorem dX10_count_87 : decode cX10_count 87 = .ok (.getfield 9, 3) := by decide +kernel
theorem dX10_count_90 : decode cX10_count 90 = .ok (.bipush 17, 2) := by decide +kernel
theorem dX10_count_92 : decode cX10_count 92 = .ok (.iaload, 1) := by decide +kernel
theorem dX10_count_93 : decode cX10_count 93 = .ok (.ireturn, 1) := by decide +kernel
theorem dX10_count_94 : decode cX10_count 94 = .ok (.aload_n 0, 1) := by decide +kernel
theorem dX10_count_95 : decode cX10_count 95 = .ok (.getfield 9, 3) := by decide +kernel
theorem dX10_count_98 : decode cX10_count 98 = .ok (.bipush 19, 2) := by decide +kernel
theorem dX10_count_100 : decode cX10_count 100 = .ok (.iaload, 1) := by decide +kernel
theorem dX10_count_101 : decode cX10_count 101 = .ok (.ireturn, 1) := by decide +kernel
theorem dX10_count_102 : decode cX10_count 102 = .ok (.aload_n 0, 1) := by decide +kernel
theorem dX10_count_103 : decode cX10_count 103 = .ok (.getfield 9, 3) := by decide +kernel
theorem dX10_count_106 : decode cX10_count 106 = .ok (.bipush 20, 2) := by decide +kernel
theorem dX10_count_108 : decode cX10_count 108 = .ok (.iaload, 1) := by decide +kernel
theorem dX10_count_109 : decode cX10_count 109 = .ok (.ireturn, 1) := by decide +kernel
theorem dX10_count_110 : decode cX10_count 110 = .ok (.aload_n 0, 1) := by decide +kernel
theorem dX10_count_111 : decode cX10_count 111 = .ok (.aload_n 0, 1) := by decide +kernel
theorem dX10_count_112 : decode cX10_count 112 = .ok (.getfield 9, 3) := by decide +kernel
theorem dX10_count_115 : decode cX10_count 115 = .ok (.iload_n 1, 1) := by decide +kernel
theorem dX10_count_116 : decode cX10_count 116 = .ok (.iconst 5, 1) := by decide +kernel
theorem dX10_count_117 : decode cX10_count 117 = .ok (.isub, 1) := by decide +kernel
theorem dX10_count_118 : decode cX10_count 118 = .ok (.invokevirtual 244, 3) := by decide +kernel
theorem dX10_count_121 : decode cX10_count 121 = .ok (.ireturn, 1) := by decide +kernel
theorem dX10_count_122 : decode cX10_count 122 = .ok (.aload_n 0, 1) := by decide +kernel
theorem dX10_count_123 : decode cX10_count 123 = .ok (.getfield 9, 3) := by decide +kernel
theorem dX10_count_126 : decode cX10_count 126 = .ok (.bipush 16, 2) := by decide +kernel
theorem dX10_count_128 : decode cX10_count 128 = .ok (.iaload, 1) := by decide +kernel
theorem dX10_count_129 : decode cX10_count 129 = .ok (.ireturn, 1) := by decide +kernel
theorem dX10_count_130 : decode cX10_count 130 = .ok (.aload_n 0, 1) := by decide +kernel
theorem dX10_count_131 : decode cX10_count 131 = .ok (.aload_n 0, 1) := by decide +kernel
theorem dX10_count_132 : decode cX10_count 132 = .ok (.aload_n 0, 1) := by decide +kernel
theorem dX10_count_133 : decode cX10_count 133 = .ok (.getfield 9, 3) := by decide +kernel
theorem dX10_count_136 : decode cX10_count 136 = .ok (.iconst 2, 1) := by decide +kernel
theorem dX10_count_137 : decode cX10_count 137 = .ok (.invokevirtual 244, 3) := by decide +kernel
theorem dX10_count_140 : decode cX10_count 140 = .ok (.aload_n 0, 1) := by decide +kernel
theorem dX10_count_141 : decode cX10_count 141 = .ok (.getfield 9, 3) := by decide +kernel
theorem dX10_count_144 : decode cX10_count 144 = .ok (.bipush 16, 2) := by decide +kernel
theorem dX10_count_146 : decode cX10_count 146 = .ok (.iaload, 1) := by decide +kernel
theorem dX10_count_147 : decode cX10_count 147 = .ok (.invokevirtual 325, 3) := by decide +kernel
theorem dX10_count_150 : decode cX10_count 150 = .ok (.ireturn, 1) := by decide +kernel
theorem dX10_count_151 : decode cX10_count 151 = .ok (.aload_n 0, 1) := by decide +kernel
theorem dX10_count_152 : decode cX10_count 152 = .ok (.getfield 159, 3) := by decide +kernel
theorem dX10_count_155 : decode cX10_count 155 = .ok (.ireturn, 1) := by decide +kernel
theorem dX10_count_156 : decode cX10_count 156 = .ok (.aload_n 0, 1) := by decide +kernel
theorem dX10_count_157 : decode cX10_count 157 = .ok (.getfield 91, 3) := by decide +kernel
theorem dX10_count_160 : decode cX10_count 160 = .ok (.ireturn, 1) := by decide +kernel
theorem dX10_count_161 : decode cX10_count 161 = .ok (.aload_n 0, 1) := by decide +kernel
theorem dX10_count_162 : decode cX10_count 162 = .ok (.getfield 104, 3) := by decide +kernel
theorem dX10_count_165 : decode cX10_count 165 = .ok (.ireturn, 1) := by decide +kernel
theorem dX10_count_166 : decode cX10_count 166 = .ok (.bipush (-100), 2) := by decide +kernel
theorem dX10_count_168 : decode cX10_count 168 = .ok (.ireturn, 1) := by decide +kernel
theorem dX10_row_0 : decode cX10_row 0 = .ok (.aload_n 0, 1) := by decide +kernel
theorem dX10_row_1 : decode cX10_row 1 = .ok (.iconst 0, 1) := by decide +kernel
theorem dX10_row_2 : decode cX10_row 2 = .ok (.putfield 87, 3) := by decide +kernel
theorem dX10_row_5 : decode cX10_row 5 = .ok (.iload_n 1, 1) := by decide +kernel
theorem dX10_row_6 : decode cX10_row 6 = .ok (.iconst 0, 1) := by decide +kernel
theorem dX10_row_7 : decode cX10_row 7 = .ok (.aload_n 0, 1) := by decide +kernel
theorem dX10_row_8 : decode cX10_row 8 = .ok (.getfield 91, 3) := by decide +kernel
theorem dX10_row_11 : decode cX10_row 11 = .ok (.iconst 1, 1) := by decide +kernel
theorem dX10_row_12 : decode cX10_row 12 = .ok (.isub, 1) := by decide +kernel
theorem dX10_row_13 : decode cX10_row 13 = .ok (.invokestatic 97, 3) := by decide +kernel
theorem dX10_row_16 : decode cX10_row 16 = .ok (.ifCond .eq 12, 3) := by decide +kernel
theorem dX10_row_19 : decode cX10_row 19 = .ok (.aload_n 0, 1) := by decide +kernel
theorem dX10_row_20 : decode cX10_row 20 = .ok (.getfield 38, 3) := by decide +kernel
theorem dX10_row_23 : decode cX10_row 23 = .ok (.iload_n 1, 1) := by decide +kernel
theorem dX10_row_24 : decode cX10_row 24 = .ok (.iaload, 1) := by decide +kernel
theorem dX10_row_25 : decode cX10_row 25 = .ok (.goto 7, 3) := by decide +kernel
theorem dX10_row_28 : decode cX10_row 28 = .ok (.aload_n 0, 1) := by decide +kernel
theorem dX10_row_29 : decode cX10_row 29 = .ok (.invokevirtual 241, 3) := by decide +kernel
theorem dX10_row_32 : decode cX10_row 32 = .ok (.ireturn, 1) := by decide +kernel
