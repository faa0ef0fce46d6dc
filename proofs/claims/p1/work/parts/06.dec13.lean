theorem dX10_sweep_84 : decode cX10_sweep 84 = .ok (.iaload, 1) := by decide +kernel
theorem dX10_sweep_85 : decode cX10_sweep 85 = .ok (.invokevirtual 325, 3) := by decide +kernel
theorem dX10_sweep_88 : decode cX10_sweep 88 = .ok (.istore 7, 2) := by decide +kernel
theorem dX10_sweep_90 : decode cX10_sweep 90 = .ok (.iload 7, 2) := by decide +kernel
theorem dX10_sweep_92 : decode cX10_sweep 92 = .ok (.iload_n 3, 1) := by decide +kernel
theorem dX10_sweep_93 : decode cX10_sweep 93 = .ok (.if_icmp .lt 29, 3) := by decide +kernel
theorem dX10_sweep_96 : decode cX10_sweep 96 = .ok (.iload 7, 2) := by decide +kernel
theorem dX10_sweep_98 : decode cX10_sweep 98 = .ok (.iload_n 3, 1) := by decide +kernel
theorem dX10_sweep_99 : decode cX10_sweep 99 = .ok (.if_icmp .ne 13, 3) := by decide +kernel
theorem dX10_sweep_102 : decode cX10_sweep 102 = .ok (.iload 6, 2) := by decide +kernel
theorem dX10_sweep_104 : decode cX10_sweep 104 = .ok (.iload 4, 2) := by decide +kernel
theorem dX10_sweep_106 : decode cX10_sweep 106 = .ok (.if_icmp .lt 6, 3) := by decide +kernel
theorem dX10_sweep_109 : decode cX10_sweep 109 = .ok (.goto 13, 3) := by decide +kernel
theorem dX10_sweep_112 : decode cX10_sweep 112 = .ok (.iload 5, 2) := by decide +kernel
theorem dX10_sweep_114 : decode cX10_sweep 114 = .ok (.istore_n 2, 1) := by decide +kernel
theorem dX10_sweep_115 : decode cX10_sweep 115 = .ok (.iload 7, 2) := by decide +kernel
theorem dX10_sweep_117 : decode cX10_sweep 117 = .ok (.istore_n 3, 1) := by decide +kernel
theorem dX10_sweep_118 : decode cX10_sweep 118 = .ok (.iload 6, 2) := by decide +kernel
theorem dX10_sweep_120 : decode cX10_sweep 120 = .ok (.istore 4, 2) := by decide +kernel
theorem dX10_sweep_122 : decode cX10_sweep 122 = .ok (.iinc 5 1, 3) := by decide +kernel
theorem dX10_sweep_125 : decode cX10_sweep 125 = .ok (.goto (-85), 3) := by decide +kernel
theorem dX10_sweep_128 : decode cX10_sweep 128 = .ok (.aload_n 0, 1) := by decide +kernel
theorem dX10_sweep_129 : decode cX10_sweep 129 = .ok (.iconst 0, 1) := by decide +kernel
theorem dX10_sweep_130 : decode cX10_sweep 130 = .ok (.putfield 91, 3) := by decide +kernel
theorem dX10_sweep_133 : decode cX10_sweep 133 = .ok (.aload_n 0, 1) := by decide +kernel
theorem dX10_sweep_134 : decode cX10_sweep 134 = .ok (.iload_n 2, 1) := by decide +kernel
theorem dX10_sweep_135 : decode cX10_sweep 135 = .ok (.invokevirtual 322, 3) := by decide +kernel
theorem dX10_sweep_138 : decode cX10_sweep 138 = .ok (.aload_n 0, 1) := by decide +kernel
theorem dX10_sweep_139 : decode cX10_sweep 139 = .ok (.iload 4, 2) := by decide +kernel
theorem dX10_sweep_141 : decode cX10_sweep 141 = .ok (.invokevirtual 322, 3) := by decide +kernel
theorem dX10_sweep_144 : decode cX10_sweep 144 = .ok (.iload_n 3, 1) := by decide +kernel
theorem dX10_sweep_145 : decode cX10_sweep 145 = .ok (.ireturn, 1) := by decide +kernel
theorem dX10_hereWanted_0 : decode cX10_hereWanted 0 = .ok (.aload_n 0, 1) := by decide +kernel
theorem dX10_hereWanted_1 : decode cX10_hereWanted 1 = .ok (.aload_n 0, 1) := by decide +kernel
theorem dX10_hereWanted_2 : decode cX10_hereWanted 2 = .ok (.getfield 9, 3) := by decide +kernel
theorem dX10_hereWanted_5 : decode cX10_hereWanted 5 = .ok (.iconst 0, 1) := by decide +kernel
theorem dX10_hereWanted_6 : decode cX10_hereWanted 6 = .ok (.invokevirtual 244, 3) := by decide +kernel
theorem dX10_hereWanted_9 : decode cX10_hereWanted 9 = .ok (.aload_n 0, 1) := by decide +kernel
theorem dX10_hereWanted_10 : decode cX10_hereWanted 10 = .ok (.aload_n 0, 1) := by decide +kernel
theorem dX10_hereWanted_11 : decode cX10_hereWanted 11 = .ok (.getfield 9, 3) := by decide +kernel
theorem dX10_hereWanted_14 : decode cX10_hereWanted 14 = .ok (.bipush 19, 2) := by decide +kernel
theorem dX10_hereWanted_16 : decode cX10_hereWanted 16 = .ok (.iaload, 1) := by decide +kernel
theorem dX10_hereWanted_17 : decode cX10_hereWanted 17 = .ok (.invokevirtual 301, 3) := by decide +kernel
theorem dX10_hereWanted_20 : decode cX10_hereWanted 20 = .ok (.iand, 1) := by decide +kernel
theorem dX10_hereWanted_21 : decode cX10_hereWanted 21 = .ok (.aload_n 0, 1) := by decide +kernel
theorem dX10_hereWanted_22 : decode cX10_hereWanted 22 = .ok (.aload_n 0, 1) := by decide +kernel
theorem dX10_hereWanted_23 : decode cX10_hereWanted 23 = .ok (.getfield 9, 3) := by decide +kernel
theorem dX10_hereWanted_26 : decode cX10_hereWanted 26 = .ok (.bipush 17, 2) := by decide +kernel
theorem dX10_hereWanted_28 : decode cX10_hereWanted 28 = .ok (.iaload, 1) := by decide +kernel
theorem dX10_hereWanted_29 : decode cX10_hereWanted 29 = .ok (.invokevirtual 304, 3) := by decide +kernel
theorem dX10_hereWanted_32 : decode cX10_hereWanted 32 = .ok (.iand, 1) := by decide +kernel
theorem dX10_hereWanted_33 : decode cX10_hereWanted 33 = .ok (.ireturn, 1) := by decide +kernel
theorem dX10_dusk_0 : decode cX10_dusk 0 = .ok (.aload_n 0, 1) := by decide +kernel
theorem dX10_dusk_1 : decode cX10_dusk 1 = .ok (.iconst 0, 1) := by decide +kernel
theorem dX10_dusk_2 : decode cX10_dusk 2 = .ok (.putfield 87, 3) := by decide +kernel
theorem dX10_dusk_5 : decode cX10_dusk 5 = .ok (.iload_n 1, 1) := by decide +kernel
theorem dX10_dusk_6 : decode cX10_dusk 6 = .ok (.iconst 0, 1) := by decide +kernel
theorem dX10_dusk_7 : decode cX10_dusk 7 = .ok (.sipush 300, 3) := by decide +kernel
theorem dX10_dusk_10 : decode cX10_dusk 10 = .ok (.invokestatic 97, 3) := by decide +kernel
theorem dX10_dusk_13 : decode cX10_dusk 13 = .ok (.ifCond .ne 5, 3) := by decide +kernel
theorem dX10_dusk_16 : decode cX10_dusk 16 = .ok (.iconst (-1), 1) := by decide +kernel
theorem dX10_dusk_17 : decode cX10_dusk 17 = .ok (.ireturn, 1) := by decide +kernel
theorem dX10_dusk_18 : decode cX10_dusk 18 = .ok (.aload_n 0, 1) := by decide +kernel
theorem dX10_dusk_19 : decode cX10_dusk 19 = .ok (.getfield 9, 3) := by decide +kernel
theorem dX10_dusk_22 : decode cX10_dusk 22 = .ok (.bipush 17, 2) := by decide +kernel
theorem dX10_dusk_24 : decode cX10_dusk 24 = .ok (.iaload, 1) := by decide +kernel
theorem dX10_dusk_25 : decode cX10_dusk 25 = .ok (.iconst (-1), 1) := by decide +kernel
theorem dX10_dusk_26 : decode cX10_dusk 26 = .ok (.if_icmp .ne 6, 3) := by decide +kernel
theorem dX10_dusk_29 : decode cX10_dusk 29 = .ok (.bipush (-2), 2) := by decide +kernel
theorem dX10_dusk_31 : decode cX10_dusk 31 = .ok (.ireturn, 1) := by decide +kernel
theorem dX10_dusk_32 : decode cX10_dusk 32 = .ok (.aload_n 0, 1) := by decide +kernel
theorem dX10_dusk_33 : decode cX10_dusk 33 = .ok (.invokevirtual 388, 3) := by decide +kernel
theorem dX10_dusk_36 : decode cX10_dusk 36 = .ok (.istore_n 2, 1) := by decide +kernel
theorem dX10_dusk_37 : decode cX10_dusk 37 = .ok (.iconst 0, 1) := by decide +kernel
theorem dX10_dusk_38 : decode cX10_dusk 38 = .ok (.istore_n 3, 1) := by decide +kernel
theorem dX10_dusk_39 : decode cX10_dusk 39 = .ok (.iload_n 3, 1) := by decide +kernel
theorem dX10_dusk_40 : decode cX10_dusk 40 = .ok (.aload_n 0, 1) := by decide +kernel
theorem dX10_dusk_41 : decode cX10_dusk 41 = .ok (.getfield 94, 3) := by decide +kernel
theorem dX10_dusk_44 : decode cX10_dusk 44 = .ok (.if_icmp .ge 41, 3) := by decide +kernel
theorem dX10_dusk_47 : decode cX10_dusk 47 = .ok (.aload_n 0, 1) := by decide +kernel
theorem dX10_dusk_48 : decode cX10_dusk 48 = .ok (.getfield 65, 3) := by decide +kernel
theorem dX10_dusk_51 : decode cX10_dusk 51 = .ok (.iload_n 3, 1) := by decide +kernel
theorem dX10_dusk_52 : decode cX10_dusk 52 = .ok (.iload_n 2, 1) := by decide +kernel
theorem dX10_dusk_53 : decode cX10_dusk 53 = .ok (.iload_n 3, 1) := by decide +kernel
theorem dX10_dusk_54 : decode cX10_dusk 54 = .ok (.invokestatic 227, 3) := by decide +kernel
theorem dX10_dusk_57 : decode cX10_dusk 57 = .ok (.ifCond .eq 20, 3) := by decide +kernel
theorem dX10_dusk_60 : decode cX10_dusk 60 = .ok (.aload_n 0, 1) := by decide +kernel
theorem dX10_dusk_61 : decode cX10_dusk 61 = .ok (.iload_n 3, 1) := by decide +kernel
theorem dX10_dusk_62 : decode cX10_dusk 62 = .ok (.aload_n 0, 1) := by decide +kernel
theorem dX10_dusk_63 : decode cX10_dusk 63 = .ok (.getfield 9, 3) := by decide +kernel
theorem dX10_dusk_66 : decode cX10_dusk 66 = .ok (.bipush 17, 2) := by decide +kernel
theorem dX10_dusk_68 : decode cX10_dusk 68 = .ok (.iaload, 1) := by decide +kernel
theorem dX10_dusk_69 : decode cX10_dusk 69 = .ok (.iconst 0, 1) := by decide +kernel
theorem dX10_dusk_70 : decode cX10_dusk 70 = .ok (.iconst 0, 1) := by decide +kernel
theorem dX10_dusk_71 : decode cX10_dusk 71 = .ok (.invokevirtual 285, 3) := by decide +kernel
theorem dX10_dusk_74 : decode cX10_dusk 74 = .ok (.goto 4, 3) := by decide +kernel
theorem dX10_dusk_77 : decode cX10_dusk 77 = .ok (.iconst 0, 1) := by decide +kernel
theorem dX10_dusk_78 : decode cX10_dusk 78 = .ok (.iastore, 1) := by decide +kernel
theorem dX10_dusk_79 : decode cX10_dusk 79 = .ok (.iinc 3 1, 3) := by decide +kernel
theorem dX10_dusk_82 : decode cX10_dusk 82 = .ok (.goto (-43), 3) := by decide +kernel
theorem dX10_dusk_85 : decode cX10_dusk 85 = .ok (.iconst 0, 1) := by decide +kernel
theorem dX10_dusk_86 : decode cX10_dusk 86 = .ok (.istore_n 3, 1) := by decide +kernel
theorem dX10_dusk_87 : decode cX10_dusk 87 = .ok (.iconst 0, 1) := by decide +kernel
theorem dX10_dusk_88 : decode cX10_dusk 88 = .ok (.istore 4, 2) := by decide +kernel
theorem dX10_dusk_90 : decode cX10_dusk 90 = .ok (.iconst 0, 1) := by decide +kernel
theorem dX10_dusk_91 : decode cX10_dusk 91 = .ok (.istore 5, 2) := by decide +kernel
theorem dX10_dusk_93 : decode cX10_dusk 93 = .ok (.iload_n 2, 1) := by decide +kernel
theorem dX10_dusk_94 : decode cX10_dusk 94 = .ok (.istore 6, 2) := by decide +kernel
theorem dX10_dusk_96 : decode cX10_dusk 96 = .ok (.iload 6, 2) := by decide +kernel
theorem dX10_dusk_98 : decode cX10_dusk 98 = .ok (.ifCond .le 146, 3) := by decide +kernel
theorem dX10_dusk_101 : decode cX10_dusk 101 = .ok (.iconst 0, 1) := by decide +kernel
theorem dX10_dusk_102 : decode cX10_dusk 102 = .ok (.istore 7, 2) := by decide +kernel
theorem dX10_dusk_104 : decode cX10_dusk 104 = .ok (.iconst 0, 1) := by decide +kernel
theorem dX10_dusk_105 : decode cX10_dusk 105 = .ok (.istore 8, 2) := by decide +kernel
theorem dX10_dusk_107 : decode cX10_dusk 107 = .ok (.iload 6, 2) := by decide +kernel
theorem dX10_dusk_109 : decode cX10_dusk 109 = .ok (.istore 9, 2) := by decide +kernel
theorem dX10_dusk_111 : decode cX10_dusk 111 = .ok (.iload 9, 2) := by decide +kernel
theorem dX10_dusk_113 : decode cX10_dusk 113 = .ok (.ifCond .eq 58, 3) := by decide +kernel
theorem dX10_dusk_116 : decode cX10_dusk 116 = .ok (.iload 7, 2) := by decide +kernel
theorem dX10_dusk_118 : decode cX10_dusk 118 = .ok (.iload_n 1, 1) := by decide +kernel
theorem dX10_dusk_119 : decode cX10_dusk 119 = .ok (.if_icmp .gt 52, 3) := by decide +kernel
theorem dX10_dusk_122 : decode cX10_dusk 122 = .ok (.iload 9, 2) := by decide +kernel
theorem dX10_dusk_124 : decode cX10_dusk 124 = .ok (.invokestatic 340, 3) := by decide +kernel
theorem dX10_dusk_127 : decode cX10_dusk 127 = .ok (.istore 10, 2) := by decide +kernel
theorem dX10_dusk_129 : decode cX10_dusk 129 = .ok (.iload 7, 2) := by decide +kernel
theorem dX10_dusk_131 : decode cX10_dusk 131 = .ok (.aload_n 0, 1) := by decide +kernel
theorem dX10_dusk_132 : decode cX10_dusk 132 = .ok (.getfield 65, 3) := by decide +kernel
theorem dX10_dusk_135 : decode cX10_dusk 135 = .ok (.iload 10, 2) := by decide +kernel
theorem dX10_dusk_137 : decode cX10_dusk 137 = .ok (.iaload, 1) := by decide +kernel
theorem dX10_dusk_138 : decode cX10_dusk 138 = .ok (.iadd, 1) := by decide +kernel
theorem dX10_dusk_139 : decode cX10_dusk 139 = .ok (.istore 7, 2) := by decide +kernel
theorem dX10_dusk_141 : decode cX10_dusk 141 = .ok (.iload 8, 2) := by decide +kernel
theorem dX10_dusk_143 : decode cX10_dusk 143 = .ok (.aload_n 0, 1) := by decide +kernel
theorem dX10_dusk_144 : decode cX10_dusk 144 = .ok (.iload 10, 2) := by decide +kernel
theorem dX10_dusk_146 : decode cX10_dusk 146 = .ok (.aload_n 0, 1) := by decide +kernel
theorem dX10_dusk_147 : decode cX10_dusk 147 = .ok (.getfield 9, 3) := by decide +kernel
theorem dX10_dusk_150 : decode cX10_dusk 150 = .ok (.bipush 16, 2) := by decide +kernel
theorem dX10_dusk_152 : decode cX10_dusk 152 = .ok (.iaload, 1) := by decide +kernel
theorem dX10_dusk_153 : decode cX10_dusk 153 = .ok (.invokevirtual 234, 3) := by decide +kernel
theorem dX10_dusk_156 : decode cX10_dusk 156 = .ok (.iadd, 1) := by decide +kernel
theorem dX10_dusk_157 : decode cX10_dusk 157 = .ok (.istore 8, 2) := by decide +kernel
theorem dX10_dusk_159 : decode cX10_dusk 159 = .ok (.iload 9, 2) := by decide +kernel
theorem dX10_dusk_161 : decode cX10_dusk 161 = .ok (.iload 9, 2) := by decide +kernel
theorem dX10_dusk_163 : decode cX10_dusk 163 = .ok (.iconst 1, 1) := by decide +kernel
theorem dX10_dusk_164 : decode cX10_dusk 164 = .ok (.isub, 1) := by decide +kernel
theorem dX10_dusk_165 : decode cX10_dusk 165 = .ok (.iand, 1) := by decide +kernel
theorem dX10_dusk_166 : decode cX10_dusk 166 = .ok (.istore 9, 2) := by decide +kernel
theorem dX10_dusk_168 : decode cX10_dusk 168 = .ok (.goto (-57), 3) := by decide +kernel
theorem dX10_dusk_171 : decode cX10_dusk 171 = .ok (.iload 7, 2) := by decide +kernel
theorem dX10_dusk_173 : decode cX10_dusk 173 = .ok (.iload_n 1, 1) := by decide +kernel
theorem dX10_dusk_174 : decode cX10_dusk 174 = .ok (.if_icmp .gt 59, 3) := by decide +kernel
theorem dX10_dusk_177 : decode cX10_dusk 177 = .ok (.iload 8, 2) := by decide +kernel
theorem dX10_dusk_179 : decode cX10_dusk 179 = .ok (.iload 4, 2) := by decide +kernel
theorem dX10_dusk_181 : decode cX10_dusk 181 = .ok (.if_icmp .lt 52, 3) := by decide +kernel
theorem dX10_dusk_184 : decode cX10_dusk 184 = .ok (.iload 8, 2) := by decide +kernel
theorem dX10_dusk_186 : decode cX10_dusk 186 = .ok (.iload 4, 2) := by decide +kernel
theorem dX10_dusk_188 : decode cX10_dusk 188 = .ok (.if_icmp .ne 13, 3) := by decide +kernel
theorem dX10_dusk_191 : decode cX10_dusk 191 = .ok (.iload 7, 2) := by decide +kernel
theorem dX10_dusk_193 : decode cX10_dusk 193 = .ok (.iload 5, 2) := by decide +kernel
theorem dX10_dusk_195 : decode cX10_dusk 195 = .ok (.if_icmp .le 6, 3) := by decide +kernel
theorem dX10_dusk_198 : decode cX10_dusk 198 = .ok (.goto 35, 3) := by decide +kernel
theorem dX10_dusk_201 : decode cX10_dusk 201 = .ok (.iload 8, 2) := by decide +kernel
theorem dX10_dusk_203 : decode cX10_dusk 203 = .ok (.iload 4, 2) := by decide +kernel
theorem dX10_dusk_205 : decode cX10_dusk 205 = .ok (.if_icmp .ne 17, 3) := by decide +kernel
theorem dX10_dusk_208 : decode cX10_dusk 208 = .ok (.iload 7, 2) := by decide +kernel
theorem dX10_dusk_210 : decode cX10_dusk 210 = .ok (.iload 5, 2) := by decide +kernel
theorem dX10_dusk_212 : decode cX10_dusk 212 = .ok (.if_icmp .ne 10, 3) := by decide +kernel
theorem dX10_dusk_215 : decode cX10_dusk 215 = .ok (.iload_n 3, 1) := by decide +kernel
theorem dX10_dusk_216 : decode cX10_dusk 216 = .ok (.ifCond .ne 6, 3) := by decide +kernel
theorem dX10_dusk_219 : decode cX10_dusk 219 = .ok (.goto 14, 3) := by decide +kernel
theorem dX10_dusk_222 : decode cX10_dusk 222 = .ok (.iload 6, 2) := by decide +kernel
theorem dX10_dusk_224 : decode cX10_dusk 224 = .ok (.istore_n 3, 1) := by decide +kernel
theorem dX10_dusk_225 : decode cX10_dusk 225 = .ok (.iload 8, 2) := by decide +kernel
theorem dX10_dusk_227 : decode cX10_dusk 227 = .ok (.istore 4, 2) := by decide +kernel
theorem dX10_dusk_229 : decode cX10_dusk 229 = .ok (.iload 7, 2) := by decide +kernel
theorem dX10_dusk_231 : decode cX10_dusk 231 = .ok (.istore 5, 2) := by decide +kernel
theorem dX10_dusk_233 : decode cX10_dusk 233 = .ok (.iload 6, 2) := by decide +kernel
theorem dX10_dusk_235 : decode cX10_dusk 235 = .ok (.iconst 1, 1) := by decide +kernel
theorem dX10_dusk_236 : decode cX10_dusk 236 = .ok (.isub, 1) := by decide +kernel
theorem dX10_dusk_237 : decode cX10_dusk 237 = .ok (.iload_n 2, 1) := by decide +kernel
theorem dX10_dusk_238 : decode cX10_dusk 238 = .ok (.iand, 1) := by decide +kernel
theorem dX10_dusk_239 : decode cX10_dusk 239 = .ok (.istore 6, 2) := by decide +kernel
theorem dX10_dusk_241 : decode cX10_dusk 241 = .ok (.goto (-145), 3) := by decide +kernel
theorem dX10_dusk_244 : decode cX10_dusk 244 = .ok (.aload_n 0, 1) := by decide +kernel
theorem dX10_dusk_245 : decode cX10_dusk 245 = .ok (.iconst 0, 1) := by decide +kernel
theorem dX10_dusk_246 : decode cX10_dusk 246 = .ok (.putfield 91, 3) := by decide +kernel
theorem dX10_dusk_249 : decode cX10_dusk 249 = .ok (.aload_n 0, 1) := by decide +kernel
theorem dX10_dusk_250 : decode cX10_dusk 250 = .ok (.iload_n 3, 1) := by decide +kernel
theorem dX10_dusk_251 : decode cX10_dusk 251 = .ok (.invokevirtual 322, 3) := by decide +kernel
theorem dX10_dusk_254 : decode cX10_dusk 254 = .ok (.aload_n 0, 1) := by decide +kernel
theorem dX10_dusk_255 : decode cX10_dusk 255 = .ok (.iload 5, 2) := by decide +kernel
theorem dX10_dusk_257 : decode cX10_dusk 257 = .ok (.invokevirtual 322, 3) := by decide +kernel
theorem dX10_dusk_260 : decode cX10_dusk 260 = .ok (.iload 4, 2) := by decide +kernel
theorem dX10_dusk_262 : decode cX10_dusk 262 = .ok (.ireturn, 1) := by decide +kernel
theorem dX10_gentle_0 : decode cX10_gentle 0 = .ok (.aload_n 0, 1) := by decide +kernel
theorem dX10_gentle_1 : decode cX10_gentle 1 = .ok (.iconst 0, 1) := by decide +kernel
theorem dX10_gentle_2 : decode cX10_gentle 2 = .ok (.putfield 87, 3) := by decide +kernel
theorem dX10_gentle_5 : decode cX10_gentle 5 = .ok (.aload_n 0, 1) := by decide +kernel
theorem dX10_gentle_6 : decode cX10_gentle 6 = .ok (.getfield 9, 3) := by decide +kernel
theorem dX10_gentle_9 : decode cX10_gentle 9 = .ok (.bipush 17, 2) := by decide +kernel
theorem dX10_gentle_11 : decode cX10_gentle 11 = .ok (.iaload, 1) := by decide +kernel
theorem dX10_gentle_12 : decode cX10_gentle 12 = .ok (.iconst (-1), 1) := by decide +kernel
theorem dX10_gentle_13 : decode cX10_gentle 13 = .ok (.if_icmp .ne 6, 3) := by decide +kernel
theorem dX10_gentle_16 : decode cX10_gentle 16 = .ok (.bipush (-2), 2) := by decide +kernel
theorem dX10_gentle_18 : decode cX10_gentle 18 = .ok (.ireturn, 1) := by decide +kernel
theorem dX10_gentle_19 : decode cX10_gentle 19 = .ok (.aload_n 0, 1) := by decide +kernel
theorem dX10_gentle_20 : decode cX10_gentle 20 = .ok (.invokevirtual 388, 3) := by decide +kernel
theorem dX10_gentle_23 : decode cX10_gentle 23 = .ok (.istore_n 1, 1) := by decide +kernel
theorem dX10_gentle_24 : decode cX10_gentle 24 = .ok (.aload_n 0, 1) := by decide +kernel
theorem dX10_gentle_25 : decode cX10_gentle 25 = .ok (.aload_n 0, 1) := by decide +kernel
theorem dX10_gentle_26 : decode cX10_gentle 26 = .ok (.getfield 9, 3) := by decide +kernel
theorem dX10_gentle_29 : decode cX10_gentle 29 = .ok (.iconst 0, 1) := by decide +kernel
theorem dX10_gentle_30 : decode cX10_gentle 30 = .ok (.invokevirtual 244, 3) := by decide +kernel
theorem dX10_gentle_33 : decode cX10_gentle 33 = .ok (.istore_n 2, 1) := by decide +kernel
theorem dX10_gentle_34 : decode cX10_gentle 34 = .ok (.aload_n 0, 1) := by decide +kernel
theorem dX10_gentle_35 : decode cX10_gentle 35 = .ok (.iconst 0, 1) := by decide +kernel
theorem dX10_gentle_36 : decode cX10_gentle 36 = .ok (.putfield 91, 3) := by decide +kernel
theorem dX10_gentle_39 : decode cX10_gentle 39 = .ok (.iconst 1, 1) := by decide +kernel
theorem dX10_gentle_40 : decode cX10_gentle 40 = .ok (.istore_n 3, 1) := by decide +kernel
theorem dX10_gentle_41 : decode cX10_gentle 41 = .ok (.iload_n 3, 1) := by decide +kernel
theorem dX10_gentle_42 : decode cX10_gentle 42 = .ok (.ifCond .eq 78, 3) := by decide +kernel
theorem dX10_gentle_45 : decode cX10_gentle 45 = .ok (.iconst 0, 1) := by decide +kernel
theorem dX10_gentle_46 : decode cX10_gentle 46 = .ok (.istore_n 3, 1) := by decide +kernel
theorem dX10_gentle_47 : decode cX10_gentle 47 = .ok (.iconst 0, 1) := by decide +kernel
theorem dX10_gentle_48 : decode cX10_gentle 48 = .ok (.istore 4, 2) := by decide +kernel
theorem dX10_gentle_50 : decode cX10_gentle 50 = .ok (.iload 4, 2) := by decide +kernel
theorem dX10_gentle_52 : decode cX10_gentle 52 = .ok (.aload_n 0, 1) := by decide +kernel
theorem dX10_gentle_53 : decode cX10_gentle 53 = .ok (.getfield 94, 3) := by decide +kernel
theorem dX10_gentle_56 : decode cX10_gentle 56 = .ok (.if_icmp .ge 61, 3) := by decide +kernel
theorem dX10_gentle_59 : decode cX10_gentle 59 = .ok (.iload_n 3, 1) := by decide +kernel
theorem dX10_gentle_60 : decode cX10_gentle 60 = .ok (.ifCond .ne 57, 3) := by decide +kernel
theorem dX10_gentle_63 : decode cX10_gentle 63 = .ok (.iload_n 1, 1) := by decide +kernel
theorem dX10_gentle_64 : decode cX10_gentle 64 = .ok (.iload 4, 2) := by decide +kernel
theorem dX10_gentle_66 : decode cX10_gentle 66 = .ok (.invokestatic 227, 3) := by decide +kernel
theorem dX10_gentle_69 : decode cX10_gentle 69 = .ok (.ifCond .eq 42, 3) := by decide +kernel
theorem dX10_gentle_72 : decode cX10_gentle 72 = .ok (.aload_n 0, 1) := by decide +kernel
theorem dX10_gentle_73 : decode cX10_gentle 73 = .ok (.iload 4, 2) := by decide +kernel
theorem dX10_gentle_75 : decode cX10_gentle 75 = .ok (.iload_n 2, 1) := by decide +kernel
theorem dX10_gentle_76 : decode cX10_gentle 76 = .ok (.invokevirtual 248, 3) := by decide +kernel
theorem dX10_gentle_79 : decode cX10_gentle 79 = .ok (.ifCond .eq 6, 3) := by decide +kernel
theorem dX10_gentle_82 : decode cX10_gentle 82 = .ok (.goto 29, 3) := by decide +kernel
theorem dX10_gentle_85 : decode cX10_gentle 85 = .ok (.aload_n 0, 1) := by decide +kernel
theorem dX10_gentle_86 : decode cX10_gentle 86 = .ok (.iload 4, 2) := by decide +kernel
theorem dX10_gentle_88 : decode cX10_gentle 88 = .ok (.invokevirtual 322, 3) := by decide +kernel
theorem dX10_gentle_91 : decode cX10_gentle 91 = .ok (.iload_n 1, 1) := by decide +kernel
theorem dX10_gentle_92 : decode cX10_gentle 92 = .ok (.iconst 1, 1) := by decide +kernel
theorem dX10_gentle_93 : decode cX10_gentle 93 = .ok (.iload 4, 2) := by decide +kernel
theorem dX10_gentle_95 : decode cX10_gentle 95 = .ok (.ishl, 1) := by decide +kernel
theorem dX10_gentle_96 : decode cX10_gentle 96 = .ok (.iconst (-1), 1) := by decide +kernel
theorem dX10_gentle_97 : decode cX10_gentle 97 = .ok (.ixor, 1) := by decide +kernel
theorem dX10_gentle_98 : decode cX10_gentle 98 = .ok (.iand, 1) := by decide +kernel
theorem dX10_gentle_99 : decode cX10_gentle 99 = .ok (.istore_n 1, 1) := by decide +kernel
theorem dX10_gentle_100 : decode cX10_gentle 100 = .ok (.iload_n 2, 1) := by decide +kernel
theorem dX10_gentle_101 : decode cX10_gentle 101 = .ok (.iconst 1, 1) := by decide +kernel
theorem dX10_gentle_102 : decode cX10_gentle 102 = .ok (.iload 4, 2) := by decide +kernel
theorem dX10_gentle_104 : decode cX10_gentle 104 = .ok (.ishl, 1) := by decide +kernel
theorem dX10_gentle_105 : decode cX10_gentle 105 = .ok (.iconst (-1), 1) := by decide +kernel
theorem dX10_gentle_106 : decode cX10_gentle 106 = .ok (.ixor, 1) := by decide +kernel
theorem dX10_gentle_107 : decode cX10_gentle 107 = .ok (.iand, 1) := by decide +kernel
theorem dX10_gentle_108 : decode cX10_gentle 108 = .ok (.istore_n 2, 1) := by decide +kernel
theorem dX10_gentle_109 : decode cX10_gentle 109 = .ok (.iconst 1, 1) := by decide +kernel
theorem dX10_gentle_110 : decode cX10_gentle 110 = .ok (.istore_n 3, 1) := by decide +kernel
theorem dX10_gentle_111 : decode cX10_gentle 111 = .ok (.iinc 4 1, 3) := by decide +kernel
theorem dX10_gentle_114 : decode cX10_gentle 114 = .ok (.goto (-64), 3) := by decide +kernel
theorem dX10_gentle_117 : decode cX10_gentle 117 = .ok (.goto (-76), 3) := by decide +kernel
theorem dX10_gentle_120 : decode cX10_gentle 120 = .ok (.aload_n 0, 1) := by decide +kernel
theorem dX10_gentle_121 : decode cX10_gentle 121 = .ok (.getfield 91, 3) := by decide +kernel
theorem dX10_gentle_124 : decode cX10_gentle 124 = .ok (.ireturn, 1) := by decide +kernel
theorem dX10_harm_0 : decode cX10_harm 0 = .ok (.aload_n 0, 1) := by decide +kernel
theorem dX10_harm_1 : decode cX10_harm 1 = .ok (.iconst 0, 1) := by decide +kernel
theorem dX10_harm_2 : decode cX10_harm 2 = .ok (.putfield 87, 3) := by decide +kernel
theorem dX10_harm_5 : decode cX10_harm 5 = .ok (.aload_n 0, 1) := by decide +kernel
theorem dX10_harm_6 : decode cX10_harm 6 = .ok (.getfield 9, 3) := by decide +kernel
theorem dX10_harm_9 : decode cX10_harm 9 = .ok (.bipush 17, 2) := by decide +kernel
theorem dX10_harm_11 : decode cX10_harm 11 = .ok (.iaload, 1) := by decide +kernel
theorem dX10_harm_12 : decode cX10_harm 12 = .ok (.iconst (-1), 1) := by decide +kernel
theorem dX10_harm_13 : decode cX10_harm 13 = .ok (.if_icmp .ne 6, 3) := by decide +kernel
theorem dX10_harm_16 : decode cX10_harm 16 = .ok (.bipush (-2), 2) := by decide +kernel
theorem dX10_harm_18 : decode cX10_harm 18 = .ok (.ireturn, 1) := by decide +kernel
theorem dX10_harm_19 : decode cX10_harm 19 = .ok (.aload_n 0, 1) := by decide +kernel
theorem dX10_harm_20 : decode cX10_harm 20 = .ok (.invokevirtual 388, 3) := by decide +kernel
theorem dX10_harm_23 : decode cX10_harm 23 = .ok (.istore_n 1, 1) := by decide +kernel
theorem dX10_harm_24 : decode cX10_harm 24 = .ok (.aload_n 0, 1) := by decide +kernel
theorem dX10_harm_25 : decode cX10_harm 25 = .ok (.aload_n 0, 1) := by decide +kernel
theorem dX10_harm_26 : decode cX10_harm 26 = .ok (.getfield 9, 3) := by decide +kernel
theorem dX10_harm_29 : decode cX10_harm 29 = .ok (.iconst 0, 1) := by decide +kernel
theorem dX10_harm_30 : decode cX10_harm 30 = .ok (.invokevirtual 244, 3) := by decide +kernel
theorem dX10_harm_33 : decode cX10_harm 33 = .ok (.istore_n 2, 1) := by decide +kernel
theorem dX10_harm_34 : decode cX10_harm 34 = .ok (.iconst 0, 1) := by decide +kernel
theorem dX10_harm_35 : decode cX10_harm 35 = .ok (.istore_n 3, 1) := by decide +kernel
theorem dX10_harm_36 : decode cX10_harm 36 = .ok (.iconst 0, 1) := by decide +kernel
theorem dX10_harm_37 : decode cX10_harm 37 = .ok (.istore 4, 2) := by decide +kernel
theorem dX10_harm_39 : decode cX10_harm 39 = .ok (.iload 4, 2) := by decide +kernel
theorem dX10_harm_41 : decode cX10_harm 41 = .ok (.aload_n 0, 1) := by decide +kernel
theorem dX10_harm_42 : decode cX10_harm 42 = .ok (.getfield 94, 3) := by decide +kernel
theorem dX10_harm_45 : decode cX10_harm 45 = .ok (.if_icmp .ge 40, 3) := by decide +kernel
theorem dX10_harm_48 : decode cX10_harm 48 = .ok (.iload_n 1, 1) := by decide +kernel
theorem dX10_harm_49 : decode cX10_harm 49 = .ok (.iload 4, 2) := by decide +kernel
theorem dX10_harm_51 : decode cX10_harm 51 = .ok (.invokestatic 227, 3) := by decide +kernel
theorem dX10_harm_54 : decode cX10_harm 54 = .ok (.ifCond .ne 6, 3) := by decide +kernel
theorem dX10_harm_57 : decode cX10_harm 57 = .ok (.goto 22, 3) := by decide +kernel
theorem dX10_harm_60 : decode cX10_harm 60 = .ok (.iload_n 3, 1) := by decide +kernel
theorem dX10_harm_61 : decode cX10_harm 61 = .ok (.aload_n 0, 1) := by decide +kernel
theorem dX10_harm_62 : decode cX10_harm 62 = .ok (.iload 4, 2) := by decide +kernel
theorem dX10_harm_64 : decode cX10_harm 64 = .ok (.iload_n 2, 1) := by decide +kernel
theorem dX10_harm_65 : decode cX10_harm 65 = .ok (.invokevirtual 248, 3) := by decide +kernel
theorem dX10_harm_68 : decode cX10_harm 68 = .ok (.ior, 1) := by decide +kernel
theorem dX10_harm_69 : decode cX10_harm 69 = .ok (.istore_n 3, 1) := by decide +kernel
theorem dX10_harm_70 : decode cX10_harm 70 = .ok (.iload_n 2, 1) := by decide +kernel
theorem dX10_harm_71 : decode cX10_harm 71 = .ok (.iconst 1, 1) := by decide +kernel
theorem dX10_harm_72 : decode cX10_harm 72 = .ok (.iload 4, 2) := by decide +kernel
theorem dX10_harm_74 : decode cX10_harm 74 = .ok (.ishl, 1) := by decide +kernel
theorem dX10_harm_75 : decode cX10_harm 75 = .ok (.iconst (-1), 1) := by decide +kernel
theorem dX10_harm_76 : decode cX10_harm 76 = .ok (.ixor, 1) := by decide +kernel
theorem dX10_harm_77 : decode cX10_harm 77 = .ok (.iand, 1) := by decide +kernel
theorem dX10_harm_78 : decode cX10_harm 78 = .ok (.istore_n 2, 1) := by decide +kernel
theorem dX10_harm_79 : decode cX10_harm 79 = .ok (.iinc 4 1, 3) := by decide +kernel
theorem dX10_harm_82 : decode cX10_harm 82 = .ok (.goto (-43), 3) := by decide +kernel
theorem dX10_harm_85 : decode cX10_harm 85 = .ok (.iload_n 3, 1) := by decide +kernel
theorem dX10_harm_86 : decode cX10_harm 86 = .ok (.aload_n 0, 1) := by decide +kernel
theorem dX10_harm_87 : decode cX10_harm 87 = .ok (.getfield 9, 3) := by decide +kernel
theorem dX10_harm_90 : decode cX10_harm 90 = .ok (.bipush 16, 2) := by decide +kernel
theorem dX10_harm_92 : decode cX10_harm 92 = .ok (.iaload, 1) := by decide +kernel
theorem dX10_harm_93 : decode cX10_harm 93 = .ok (.iconst (-1), 1) := by decide +kernel
theorem dX10_harm_94 : decode cX10_harm 94 = .ok (.ixor, 1) := by decide +kernel
theorem dX10_harm_95 : decode cX10_harm 95 = .ok (.iand, 1) := by decide +kernel
theorem dX10_harm_96 : decode cX10_harm 96 = .ok (.istore_n 3, 1) := by decide +kernel
theorem dX10_harm_97 : decode cX10_harm 97 = .ok (.aload_n 0, 1) := by decide +kernel
theorem dX10_harm_98 : decode cX10_harm 98 = .ok (.iconst 0, 1) := by decide +kernel
theorem dX10_harm_99 : decode cX10_harm 99 = .ok (.putfield 91, 3) := by decide +kernel
theorem dX10_harm_102 : decode cX10_harm 102 = .ok (.aload_n 0, 1) := by decide +kernel
theorem dX10_harm_103 : decode cX10_harm 103 = .ok (.aload_n 0, 1) := by decide +kernel
theorem dX10_harm_104 : decode cX10_harm 104 = .ok (.iload_n 3, 1) := by decide +kernel
theorem dX10_harm_105 : decode cX10_harm 105 = .ok (.iconst 0, 1) := by decide +kernel
theorem dX10_harm_106 : decode cX10_harm 106 = .ok (.invokevirtual 325, 3) := by decide +kernel
theorem dX10_harm_109 : decode cX10_harm 109 = .ok (.aload_n 0, 1) := by decide +kernel
theorem dX10_harm_110 : decode cX10_harm 110 = .ok (.iload_n 3, 1) := by decide +kernel
theorem dX10_harm_111 : decode cX10_harm 111 = .ok (.iload_n 3, 1) := by decide +kernel
theorem dX10_harm_112 : decode cX10_harm 112 = .ok (.invokevirtual 325, 3) := by decide +kernel
theorem dX10_harm_115 : decode cX10_harm 115 = .ok (.isub, 1) := by decide +kernel
theorem dX10_harm_116 : decode cX10_harm 116 = .ok (.invokevirtual 322, 3) := by decide +kernel
theorem dX10_harm_119 : decode cX10_harm 119 = .ok (.iload_n 3, 1) := by decide +kernel
theorem dX10_harm_120 : decode cX10_harm 120 = .ok (.ireturn, 1) := by decide +kernel
theorem dX10_loadOf_0 : decode cX10_loadOf 0 = .ok (.iconst 0, 1) := by decide +kernel
theorem dX10_loadOf_1 : decode cX10_loadOf 1 = .ok (.istore_n 2, 1) := by decide +kernel
theorem dX10_loadOf_2 : decode cX10_loadOf 2 = .ok (.iconst 0, 1) := by decide +kernel
theorem dX10_loadOf_3 : decode cX10_loadOf 3 = .ok (.istore_n 3, 1) := by decide +kernel
theorem dX10_loadOf_4 : decode cX10_loadOf 4 = .ok (.iload_n 3, 1) := by decide +kernel
theorem dX10_loadOf_5 : decode cX10_loadOf 5 = .ok (.aload_n 0, 1) := by decide +kernel
theorem dX10_loadOf_6 : decode cX10_loadOf 6 = .ok (.getfield 101, 3) := by decide +kernel
theorem dX10_loadOf_9 : decode cX10_loadOf 9 = .ok (.if_icmp .ge 30, 3) := by decide +kernel
theorem dX10_loadOf_12 : decode cX10_loadOf 12 = .ok (.iload_n 2, 1) := by decide +kernel
theorem dX10_loadOf_13 : decode cX10_loadOf 13 = .ok (.iload_n 1, 1) := by decide +kernel
theorem dX10_loadOf_14 : decode cX10_loadOf 14 = .ok (.iload_n 3, 1) := by decide +kernel
theorem dX10_loadOf_15 : decode cX10_loadOf 15 = .ok (.invokestatic 227, 3) := by decide +kernel
theorem dX10_loadOf_18 : decode cX10_loadOf 18 = .ok (.ifCond .eq 12, 3) := by decide +kernel
theorem dX10_loadOf_21 : decode cX10_loadOf 21 = .ok (.aload_n 0, 1) := by decide +kernel
theorem dX10_loadOf_22 : decode cX10_loadOf 22 = .ok (.getfield 68, 3) := by decide +kernel
theorem dX10_loadOf_25 : decode cX10_loadOf 25 = .ok (.iload_n 3, 1) := by decide +kernel
theorem dX10_loadOf_26 : decode cX10_loadOf 26 = .ok (.iaload, 1) := by decide +kernel
theorem dX10_loadOf_27 : decode cX10_loadOf 27 = .ok (.goto 4, 3) := by decide +kernel
theorem dX10_loadOf_30 : decode cX10_loadOf 30 = .ok (.iconst 0, 1) := by decide +kernel
theorem dX10_loadOf_31 : decode cX10_loadOf 31 = .ok (.iadd, 1) := by decide +kernel
theorem dX10_loadOf_32 : decode cX10_loadOf 32 = .ok (.istore_n 2, 1) := by decide +kernel
theorem dX10_loadOf_33 : decode cX10_loadOf 33 = .ok (.iinc 3 1, 3) := by decide +kernel
theorem dX10_loadOf_36 : decode cX10_loadOf 36 = .ok (.goto (-32), 3) := by decide +kernel
theorem dX10_loadOf_39 : decode cX10_loadOf 39 = .ok (.iload_n 2, 1) := by decide +kernel
theorem dX10_loadOf_40 : decode cX10_loadOf 40 = .ok (.ireturn, 1) := by decide +kernel
theorem dX10_share_0 : decode cX10_share 0 = .ok (.aload_n 0, 1) := by decide +kernel
theorem dX10_share_1 : decode cX10_share 1 = .ok (.iconst 0, 1) := by decide +kernel
theorem dX10_share_2 : decode cX10_share 2 = .ok (.putfield 87, 3) := by decide +kernel
theorem dX10_share_5 : decode cX10_share 5 = .ok (.iload_n 1, 1) := by decide +kernel
theorem dX10_share_6 : decode cX10_share 6 = .ok (.iconst 0, 1) := by decide +kernel
theorem dX10_share_7 : decode cX10_share 7 = .ok (.aload_n 0, 1) := by decide +kernel
theorem dX10_share_8 : decode cX10_share 8 = .ok (.invokevirtual 331, 3) := by decide +kernel
theorem dX10_share_11 : decode cX10_share 11 = .ok (.invokestatic 97, 3) := by decide +kernel
theorem dX10_share_14 : decode cX10_share 14 = .ok (.ifCond .ne 5, 3) := by decide +kernel
theorem dX10_share_17 : decode cX10_share 17 = .ok (.iconst (-1), 1) := by decide +kernel
theorem dX10_share_18 : decode cX10_share 18 = .ok (.ireturn, 1) := by decide +kernel
theorem dX10_share_19 : decode cX10_share 19 = .ok (.aload_n 0, 1) := by decide +kernel
theorem dX10_share_20 : decode cX10_share 20 = .ok (.invokevirtual 349, 3) := by decide +kernel
theorem dX10_share_23 : decode cX10_share 23 = .ok (.iconst 0, 1) := by decide +kernel
theorem dX10_share_24 : decode cX10_share 24 = .ok (.istore_n 2, 1) := by decide +kernel
theorem dX10_share_25 : decode cX10_share 25 = .ok (.iload_n 2, 1) := by decide +kernel
theorem dX10_share_26 : decode cX10_share 26 = .ok (.bipush 8, 2) := by decide +kernel
theorem dX10_share_28 : decode cX10_share 28 = .ok (.if_icmp .ge 16, 3) := by decide +kernel
theorem dX10_share_31 : decode cX10_share 31 = .ok (.aload_n 0, 1) := by decide +kernel
theorem dX10_share_32 : decode cX10_share 32 = .ok (.getfield 68, 3) := by decide +kernel
theorem dX10_share_35 : decode cX10_share 35 = .ok (.iload_n 2, 1) := by decide +kernel
theorem dX10_share_36 : decode cX10_share 36 = .ok (.iconst 0, 1) := by decide +kernel
theorem dX10_share_37 : decode cX10_share 37 = .ok (.iastore, 1) := by decide +kernel
theorem dX10_share_38 : decode cX10_share 38 = .ok (.iinc 2 1, 3) := by decide +kernel
theorem dX10_share_41 : decode cX10_share 41 = .ok (.goto (-16), 3) := by decide +kernel
theorem dX10_share_44 : decode cX10_share 44 = .ok (.iconst 0, 1) := by decide +kernel
theorem dX10_share_45 : decode cX10_share 45 = .ok (.istore_n 2, 1) := by decide +kernel
theorem dX10_share_46 : decode cX10_share 46 = .ok (.iload_n 2, 1) := by decide +kernel
theorem dX10_share_47 : decode cX10_share 47 = .ok (.aload_n 0, 1) := by decide +kernel
theorem dX10_share_48 : decode cX10_share 48 = .ok (.getfield 94, 3) := by decide +kernel
theorem dX10_share_51 : decode cX10_share 51 = .ok (.if_icmp .ge 85, 3) := by decide +kernel
theorem dX10_share_54 : decode cX10_share 54 = .ok (.aload_n 0, 1) := by decide +kernel
theorem dX10_share_55 : decode cX10_share 55 = .ok (.getfield 337, 3) := by decide +kernel
theorem dX10_share_58 : decode cX10_share 58 = .ok (.iload_n 2, 1) := by decide +kernel
theorem dX10_share_59 : decode cX10_share 59 = .ok (.invokestatic 227, 3) := by decide +kernel
theorem dX10_share_62 : decode cX10_share 62 = .ok (.ifCond .ne 6, 3) := by decide +kernel
theorem dX10_share_65 : decode cX10_share 65 = .ok (.goto 65, 3) := by decide +kernel
theorem dX10_share_68 : decode cX10_share 68 = .ok (.iconst 0, 1) := by decide +kernel
theorem dX10_share_69 : decode cX10_share 69 = .ok (.istore_n 3, 1) := by decide +kernel
theorem dX10_share_70 : decode cX10_share 70 = .ok (.iload_n 3, 1) := by decide +kernel
theorem dX10_share_71 : decode cX10_share 71 = .ok (.aload_n 0, 1) := by decide +kernel
theorem dX10_share_72 : decode cX10_share 72 = .ok (.getfield 101, 3) := by decide +kernel
theorem dX10_share_75 : decode cX10_share 75 = .ok (.if_icmp .ge 30, 3) := by decide +kernel
theorem dX10_share_78 : decode cX10_share 78 = .ok (.iload_n 1, 1) := by decide +kernel
theorem dX10_share_79 : decode cX10_share 79 = .ok (.iload_n 3, 1) := by decide +kernel
theorem dX10_share_80 : decode cX10_share 80 = .ok (.invokestatic 227, 3) := by decide +kernel
theorem dX10_share_83 : decode cX10_share 83 = .ok (.ifCond .eq 16, 3) := by decide +kernel
theorem dX10_share_86 : decode cX10_share 86 = .ok (.aload_n 0, 1) := by decide +kernel
theorem dX10_share_87 : decode cX10_share 87 = .ok (.getfield 59, 3) := by decide +kernel
theorem dX10_share_90 : decode cX10_share 90 = .ok (.iload_n 3, 1) := by decide +kernel
theorem dX10_share_91 : decode cX10_share 91 = .ok (.iaload, 1) := by decide +kernel
theorem dX10_share_92 : decode cX10_share 92 = .ok (.iload_n 2, 1) := by decide +kernel
theorem dX10_share_93 : decode cX10_share 93 = .ok (.invokestatic 227, 3) := by decide +kernel
theorem dX10_share_96 : decode cX10_share 96 = .ok (.ifCond .ne 9, 3) := by decide +kernel
theorem dX10_share_99 : decode cX10_share 99 = .ok (.iinc 3 1, 3) := by decide +kernel
theorem dX10_share_102 : decode cX10_share 102 = .ok (.goto (-32), 3) := by decide +kernel
theorem dX10_share_105 : decode cX10_share 105 = .ok (.iload_n 3, 1) := by decide +kernel
theorem dX10_share_106 : decode cX10_share 106 = .ok (.aload_n 0, 1) := by decide +kernel
theorem dX10_share_107 : decode cX10_share 107 = .ok (.getfield 101, 3) := by decide +kernel
theorem dX10_share_110 : decode cX10_share 110 = .ok (.if_icmp .ge 20, 3) := by decide +kernel
theorem dX10_share_113 : decode cX10_share 113 = .ok (.aload_n 0, 1) := by decide +kernel
theorem dX10_share_114 : decode cX10_share 114 = .ok (.getfield 68, 3) := by decide +kernel
theorem dX10_share_117 : decode cX10_share 117 = .ok (.iload_n 3, 1) := by decide +kernel
theorem dX10_share_118 : decode cX10_share 118 = .ok (.dup2, 1) := by decide +kernel
theorem dX10_share_119 : decode cX10_share 119 = .ok (.iaload, 1) := by decide +kernel
theorem dX10_share_120 : decode cX10_share 120 = .ok (.aload_n 0, 1) := by decide +kernel
theorem dX10_share_121 : decode cX10_share 121 = .ok (.iload_n 2, 1) := by decide +kernel
theorem dX10_share_122 : decode cX10_share 122 = .ok (.iload_n 3, 1) := by decide +kernel
theorem dX10_share_123 : decode cX10_share 123 = .ok (.iconst 0, 1) := by decide +kernel
theorem dX10_share_124 : decode cX10_share 124 = .ok (.iconst 0, 1) := by decide +kernel
theorem dX10_share_125 : decode cX10_share 125 = .ok (.invokevirtual 285, 3) := by decide +kernel
theorem dX10_share_128 : decode cX10_share 128 = .ok (.iadd, 1) := by decide +kernel
theorem dX10_share_129 : decode cX10_share 129 = .ok (.iastore, 1) := by decide +kernel
theorem dX10_share_130 : decode cX10_share 130 = .ok (.iinc 2 1, 3) := by decide +kernel
theorem dX10_share_133 : decode cX10_share 133 = .ok (.goto (-87), 3) := by decide +kernel
theorem dX10_share_136 : decode cX10_share 136 = .ok (.iconst 0, 1) := by decide +kernel
theorem dX10_share_137 : decode cX10_share 137 = .ok (.istore_n 2, 1) := by decide +kernel
theorem dX10_share_138 : decode cX10_share 138 = .ok (.ldc_w 360, 3) := by decide +kernel
theorem dX10_share_141 : decode cX10_share 141 = .ok (.istore_n 3, 1) := by decide +kernel
theorem dX10_share_142 : decode cX10_share 142 = .ok (.iconst 0, 1) := by decide +kernel
theorem dX10_share_143 : decode cX10_share 143 = .ok (.istore 4, 2) := by decide +kernel
theorem dX10_share_145 : decode cX10_share 145 = .ok (.iconst 0, 1) := by decide +kernel
theorem dX10_share_146 : decode cX10_share 146 = .ok (.istore 5, 2) := by decide +kernel
theorem dX10_share_148 : decode cX10_share 148 = .ok (.iload 5, 2) := by decide +kernel
theorem dX10_share_150 : decode cX10_share 150 = .ok (.iload_n 1, 1) := by decide +kernel
theorem dX10_share_151 : decode cX10_share 151 = .ok (.if_icmp .gt 70, 3) := by decide +kernel
theorem dX10_share_154 : decode cX10_share 154 = .ok (.iload 5, 2) := by decide +kernel
theorem dX10_share_156 : decode cX10_share 156 = .ok (.iload_n 1, 1) := by decide +kernel
theorem dX10_share_157 : decode cX10_share 157 = .ok (.iconst (-1), 1) := by decide +kernel
theorem dX10_share_158 : decode cX10_share 158 = .ok (.ixor, 1) := by decide +kernel
theorem dX10_share_159 : decode cX10_share 159 = .ok (.iand, 1) := by decide +kernel
theorem dX10_share_160 : decode cX10_share 160 = .ok (.ifCond .eq 6, 3) := by decide +kernel
theorem dX10_share_163 : decode cX10_share 163 = .ok (.goto 52, 3) := by decide +kernel
theorem dX10_share_166 : decode cX10_share 166 = .ok (.aload_n 0, 1) := by decide +kernel
theorem dX10_share_167 : decode cX10_share 167 = .ok (.iload 5, 2) := by decide +kernel
theorem dX10_share_169 : decode cX10_share 169 = .ok (.invokevirtual 391, 3) := by decide +kernel
theorem dX10_share_172 : decode cX10_share 172 = .ok (.istore 6, 2) := by decide +kernel
theorem dX10_share_174 : decode cX10_share 174 = .ok (.aload_n 0, 1) := by decide +kernel
theorem dX10_share_175 : decode cX10_share 175 = .ok (.iload_n 1, 1) := by decide +kernel
theorem dX10_share_176 : decode cX10_share 176 = .ok (.iload 5, 2) := by decide +kernel
theorem dX10_share_178 : decode cX10_share 178 = .ok (.iconst (-1), 1) := by decide +kernel
theorem dX10_share_179 : decode cX10_share 179 = .ok (.ixor, 1) := by decide +kernel
theorem dX10_share_180 : decode cX10_share 180 = .ok (.iand, 1) := by decide +kernel
theorem dX10_share_181 : decode cX10_share 181 = .ok (.invokevirtual 391, 3) := by decide +kernel
theorem dX10_share_184 : decode cX10_share 184 = .ok (.istore 7, 2) := by decide +kernel
theorem dX10_share_186 : decode cX10_share 186 = .ok (.iload 6, 2) := by decide +kernel
theorem dX10_share_188 : decode cX10_share 188 = .ok (.iload 7, 2) := by decide +kernel
theorem dX10_share_190 : decode cX10_share 190 = .ok (.invokestatic 211, 3) := by decide +kernel
theorem dX10_share_193 : decode cX10_share 193 = .ok (.iload_n 3, 1) := by decide +kernel
theorem dX10_share_194 : decode cX10_share 194 = .ok (.if_icmp .lt 6, 3) := by decide +kernel
theorem dX10_share_197 : decode cX10_share 197 = .ok (.goto 18, 3) := by decide +kernel
theorem dX10_share_200 : decode cX10_share 200 = .ok (.iload 5, 2) := by decide +kernel
theorem dX10_share_202 : decode cX10_share 202 = .ok (.istore_n 2, 1) := by decide +kernel
theorem dX10_share_203 : decode cX10_share 203 = .ok (.iload 6, 2) := by decide +kernel
theorem dX10_share_205 : decode cX10_share 205 = .ok (.iload 7, 2) := by decide +kernel
theorem dX10_share_207 : decode cX10_share 207 = .ok (.invokestatic 211, 3) := by decide +kernel
theorem dX10_share_210 : decode cX10_share 210 = .ok (.istore_n 3, 1) := by decide +kernel
theorem dX10_share_211 : decode cX10_share 211 = .ok (.iload 7, 2) := by decide +kernel
theorem dX10_share_213 : decode cX10_share 213 = .ok (.istore 4, 2) := by decide +kernel
theorem dX10_share_215 : decode cX10_share 215 = .ok (.iinc 5 1, 3) := by decide +kernel
theorem dX10_share_218 : decode cX10_share 218 = .ok (.goto (-70), 3) := by decide +kernel
theorem dX10_share_221 : decode cX10_share 221 = .ok (.aload_n 0, 1) := by decide +kernel
theorem dX10_share_222 : decode cX10_share 222 = .ok (.iconst 0, 1) := by decide +kernel
theorem dX10_share_223 : decode cX10_share 223 = .ok (.putfield 91, 3) := by decide +kernel
theorem dX10_share_226 : decode cX10_share 226 = .ok (.aload_n 0, 1) := by decide +kernel
theorem dX10_share_227 : decode cX10_share 227 = .ok (.iload_n 2, 1) := by decide +kernel
theorem dX10_share_228 : decode cX10_share 228 = .ok (.invokevirtual 322, 3) := by decide +kernel
theorem dX10_share_231 : decode cX10_share 231 = .ok (.aload_n 0, 1) := by decide +kernel
theorem dX10_share_232 : decode cX10_share 232 = .ok (.iload 4, 2) := by decide +kernel
theorem dX10_share_234 : decode cX10_share 234 = .ok (.invokevirtual 322, 3) := by decide +kernel
theorem dX10_share_237 : decode cX10_share 237 = .ok (.iload_n 3, 1) := by decide +kernel
theorem dX10_share_238 : decode cX10_share 238 = .ok (.ireturn, 1) := by decide +kernel
theorem dX10_firstRipe_0 : decode cX10_firstRipe 0 = .ok (.aload_n 0, 1) := by decide +kernel
theorem dX10_firstRipe_1 : decode cX10_firstRipe 1 = .ok (.aload_n 0, 1) := by decide +kernel
theorem dX10_firstRipe_2 : decode cX10_firstRipe 2 = .ok (.getfield 9, 3) := by decide +kernel
theorem dX10_firstRipe_5 : decode cX10_firstRipe 5 = .ok (.iconst 0, 1) := by decide +kernel
theorem dX10_firstRipe_6 : decode cX10_firstRipe 6 = .ok (.invokevirtual 244, 3) := by decide +kernel
theorem dX10_firstRipe_9 : decode cX10_firstRipe 9 = .ok (.aload_n 0, 1) := by decide +kernel
theorem dX10_firstRipe_10 : decode cX10_firstRipe 10 = .ok (.iload_n 1, 1) := by decide +kernel
theorem dX10_firstRipe_11 : decode cX10_firstRipe 11 = .ok (.invokevirtual 301, 3) := by decide +kernel
theorem dX10_firstRipe_14 : decode cX10_firstRipe 14 = .ok (.iand, 1) := by decide +kernel
theorem dX10_firstRipe_15 : decode cX10_firstRipe 15 = .ok (.istore_n 2, 1) := by decide +kernel
theorem dX10_firstRipe_16 : decode cX10_firstRipe 16 = .ok (.iload_n 1, 1) := by decide +kernel
theorem dX10_firstRipe_17 : decode cX10_firstRipe 17 = .ok (.aload_n 0, 1) := by decide +kernel
theorem dX10_firstRipe_18 : decode cX10_firstRipe 18 = .ok (.getfield 9, 3) := by decide +kernel
theorem dX10_firstRipe_21 : decode cX10_firstRipe 21 = .ok (.bipush 19, 2) := by decide +kernel
theorem dX10_firstRipe_23 : decode cX10_firstRipe 23 = .ok (.iaload, 1) := by decide +kernel
theorem dX10_firstRipe_24 : decode cX10_firstRipe 24 = .ok (.if_icmp .ne 7, 3) := by decide +kernel
theorem dX10_firstRipe_27 : decode cX10_firstRipe 27 = .ok (.iload_n 2, 1) := by decide +kernel
theorem dX10_firstRipe_28 : decode cX10_firstRipe 28 = .ok (.goto 14, 3) := by decide +kernel
theorem dX10_firstRipe_31 : decode cX10_firstRipe 31 = .ok (.iload_n 2, 1) := by decide +kernel
theorem dX10_firstRipe_32 : decode cX10_firstRipe 32 = .ok (.aload_n 0, 1) := by decide +kernel
theorem dX10_firstRipe_33 : decode cX10_firstRipe 33 = .ok (.iload_n 1, 1) := by decide +kernel
theorem dX10_firstRipe_34 : decode cX10_firstRipe 34 = .ok (.iconst 1, 1) := by decide +kernel
theorem dX10_firstRipe_35 : decode cX10_firstRipe 35 = .ok (.isub, 1) := by decide +kernel
theorem dX10_firstRipe_36 : decode cX10_firstRipe 36 = .ok (.invokevirtual 301, 3) := by decide +kernel
theorem dX10_firstRipe_39 : decode cX10_firstRipe 39 = .ok (.iconst (-1), 1) := by decide +kernel
theorem dX10_firstRipe_40 : decode cX10_firstRipe 40 = .ok (.ixor, 1) := by decide +kernel
theorem dX10_firstRipe_41 : decode cX10_firstRipe 41 = .ok (.iand, 1) := by decide +kernel
theorem dX10_firstRipe_42 : decode cX10_firstRipe 42 = .ok (.ireturn, 1) := by decide +kernel
theorem dX10_ripens_0 : decode cX10_ripens 0 = .ok (.aload_n 0, 1) := by decide +kernel
theorem dX10_ripens_1 : decode cX10_ripens 1 = .ok (.iconst 0, 1) := by decide +kernel
theorem dX10_ripens_2 : decode cX10_ripens 2 = .ok (.putfield 87, 3) := by decide +kernel
theorem dX10_ripens_5 : decode cX10_ripens 5 = .ok (.aload_n 0, 1) := by decide +kernel
theorem dX10_ripens_6 : decode cX10_ripens 6 = .ok (.invokevirtual 349, 3) := by decide +kernel
theorem dX10_ripens_9 : decode cX10_ripens 9 = .ok (.iconst (-1), 1) := by decide +kernel
theorem dX10_ripens_10 : decode cX10_ripens 10 = .ok (.istore_n 1, 1) := by decide +kernel
theorem dX10_ripens_11 : decode cX10_ripens 11 = .ok (.aload_n 0, 1) := by decide +kernel
theorem dX10_ripens_12 : decode cX10_ripens 12 = .ok (.getfield 9, 3) := by decide +kernel
theorem dX10_ripens_15 : decode cX10_ripens 15 = .ok (.bipush 19, 2) := by decide +kernel
theorem dX10_ripens_17 : decode cX10_ripens 17 = .ok (.iaload, 1) := by decide +kernel
theorem dX10_ripens_18 : decode cX10_ripens 18 = .ok (.istore_n 2, 1) := by decide +kernel
theorem dX10_ripens_19 : decode cX10_ripens 19 = .ok (.aload_n 0, 1) := by decide +kernel
theorem dX10_ripens_20 : decode cX10_ripens 20 = .ok (.getfield 9, 3) := by decide +kernel
theorem dX10_ripens_23 : decode cX10_ripens 23 = .ok (.bipush 19, 2) := by decide +kernel
theorem dX10_ripens_25 : decode cX10_ripens 25 = .ok (.iaload, 1) := by decide +kernel
theorem dX10_ripens_26 : decode cX10_ripens 26 = .ok (.istore_n 3, 1) := by decide +kernel
theorem dX10_ripens_27 : decode cX10_ripens 27 = .ok (.iload_n 3, 1) := by decide +kernel
theorem dX10_ripens_28 : decode cX10_ripens 28 = .ok (.bipush 9, 2) := by decide +kernel
theorem dX10_ripens_30 : decode cX10_ripens 30 = .ok (.if_icmp .gt 33, 3) := by decide +kernel
theorem dX10_ripens_33 : decode cX10_ripens 33 = .ok (.aload_n 0, 1) := by decide +kernel
theorem dX10_ripens_34 : decode cX10_ripens 34 = .ok (.iload_n 3, 1) := by decide +kernel
theorem dX10_ripens_35 : decode cX10_ripens 35 = .ok (.invokevirtual 394, 3) := by decide +kernel
theorem dX10_ripens_38 : decode cX10_ripens 38 = .ok (.invokestatic 280, 3) := by decide +kernel
theorem dX10_ripens_41 : decode cX10_ripens 41 = .ok (.istore 4, 2) := by decide +kernel
theorem dX10_ripens_43 : decode cX10_ripens 43 = .ok (.iload 4, 2) := by decide +kernel
theorem dX10_ripens_45 : decode cX10_ripens 45 = .ok (.iload_n 1, 1) := by decide +kernel
theorem dX10_ripens_46 : decode cX10_ripens 46 = .ok (.if_icmp .gt 6, 3) := by decide +kernel
theorem dX10_ripens_49 : decode cX10_ripens 49 = .ok (.goto 8, 3) := by decide +kernel
theorem dX10_ripens_52 : decode cX10_ripens 52 = .ok (.iload 4, 2) := by decide +kernel
theorem dX10_ripens_54 : decode cX10_ripens 54 = .ok (.istore_n 1, 1) := by decide +kernel
theorem dX10_ripens_55 : decode cX10_ripens 55 = .ok (.iload_n 3, 1) := by decide +kernel
theorem dX10_ripens_56 : decode cX10_ripens 56 = .ok (.istore_n 2, 1) := by decide +kernel
theorem dX10_ripens_57 : decode cX10_ripens 57 = .ok (.iinc 3 1, 3) := by decide +kernel
theorem dX10_ripens_60 : decode cX10_ripens 60 = .ok (.goto (-33), 3) := by decide +kernel
theorem dX10_ripens_63 : decode cX10_ripens 63 = .ok (.aload_n 0, 1) := by decide +kernel
theorem dX10_ripens_64 : decode cX10_ripens 64 = .ok (.aload_n 0, 1) := by decide +kernel
theorem dX10_ripens_65 : decode cX10_ripens 65 = .ok (.aload_n 0, 1) := by decide +kernel
theorem dX10_ripens_66 : decode cX10_ripens 66 = .ok (.getfield 9, 3) := by decide +kernel
theorem dX10_ripens_69 : decode cX10_ripens 69 = .ok (.iconst 0, 1) := by decide +kernel
theorem dX10_ripens_70 : decode cX10_ripens 70 = .ok (.invokevirtual 244, 3) := by decide +kernel
theorem dX10_ripens_73 : decode cX10_ripens 73 = .ok (.aload_n 0, 1) := by decide +kernel
theorem dX10_ripens_74 : decode cX10_ripens 74 = .ok (.aload_n 0, 1) := by decide +kernel
theorem dX10_ripens_75 : decode cX10_ripens 75 = .ok (.invokevirtual 331, 3) := by decide +kernel
theorem dX10_ripens_78 : decode cX10_ripens 78 = .ok (.invokevirtual 334, 3) := by decide +kernel
theorem dX10_ripens_81 : decode cX10_ripens 81 = .ok (.iand, 1) := by decide +kernel
theorem dX10_ripens_82 : decode cX10_ripens 82 = .ok (.invokevirtual 346, 3) := by decide +kernel
theorem dX10_ripens_85 : decode cX10_ripens 85 = .ok (.istore_n 3, 1) := by decide +kernel
theorem dX10_ripens_86 : decode cX10_ripens 86 = .ok (.aload_n 0, 1) := by decide +kernel
theorem dX10_ripens_87 : decode cX10_ripens 87 = .ok (.iconst 0, 1) := by decide +kernel
theorem dX10_ripens_88 : decode cX10_ripens 88 = .ok (.putfield 91, 3) := by decide +kernel
theorem dX10_ripens_91 : decode cX10_ripens 91 = .ok (.aload_n 0, 1) := by decide +kernel
theorem dX10_ripens_92 : decode cX10_ripens 92 = .ok (.iload_n 2, 1) := by decide +kernel
theorem dX10_ripens_93 : decode cX10_ripens 93 = .ok (.invokevirtual 322, 3) := by decide +kernel
theorem dX10_ripens_96 : decode cX10_ripens 96 = .ok (.aload_n 0, 1) := by decide +kernel
theorem dX10_ripens_97 : decode cX10_ripens 97 = .ok (.iload_n 3, 1) := by decide +kernel
theorem dX10_ripens_98 : decode cX10_ripens 98 = .ok (.invokestatic 280, 3) := by decide +kernel
theorem dX10_ripens_101 : decode cX10_ripens 101 = .ok (.invokevirtual 322, 3) := by decide +kernel
theorem dX10_ripens_104 : decode cX10_ripens 104 = .ok (.iload_n 1, 1) := by decide +kernel
theorem dX10_ripens_105 : decode cX10_ripens 105 = .ok (.ireturn, 1) := by decide +kernel
theorem dX10_ondays_0 : decode cX10_ondays 0 = .ok (.aload_n 0, 1) := by decide +kernel
theorem dX10_ondays_1 : decode cX10_ondays 1 = .ok (.iconst 0, 1) := by decide +kernel
theorem dX10_ondays_2 : decode cX10_ondays 2 = .ok (.putfield 87, 3) := by decide +kernel
theorem dX10_ondays_5 : decode cX10_ondays 5 = .ok (.iload_n 1, 1) := by decide +kernel
theorem dX10_ondays_6 : decode cX10_ondays 6 = .ok (.aload_n 0, 1) := by decide +kernel
theorem dX10_ondays_7 : decode cX10_ondays 7 = .ok (.getfield 9, 3) := by decide +kernel
theorem dX10_ondays_10 : decode cX10_ondays 10 = .ok (.bipush 19, 2) := by decide +kernel
theorem dX10_ondays_12 : decode cX10_ondays 12 = .ok (.iaload, 1) := by decide +kernel
theorem dX10_ondays_13 : decode cX10_ondays 13 = .ok (.bipush 9, 2) := by decide +kernel
theorem dX10_ondays_15 : decode cX10_ondays 15 = .ok (.invokestatic 97, 3) := by decide +kernel
theorem dX10_ondays_18 : decode cX10_ondays 18 = .ok (.ifCond .ne 5, 3) := by decide +kernel
theorem dX10_ondays_21 : decode cX10_ondays 21 = .ok (.iconst (-1), 1) := by decide +kernel
theorem dX10_ondays_22 : decode cX10_ondays 22 = .ok (.ireturn, 1) := by decide +kernel
theorem dX10_ondays_23 : decode cX10_ondays 23 = .ok (.aload_n 0, 1) := by decide +kernel
theorem dX10_ondays_24 : decode cX10_ondays 24 = .ok (.invokevirtual 349, 3) := by decide +kernel
theorem dX10_ondays_27 : decode cX10_ondays 27 = .ok (.aload_n 0, 1) := by decide +kernel
theorem dX10_ondays_28 : decode cX10_ondays 28 = .ok (.aload_n 0, 1) := by decide +kernel
theorem dX10_ondays_29 : decode cX10_ondays 29 = .ok (.iload_n 1, 1) := by decide +kernel
theorem dX10_ondays_30 : decode cX10_ondays 30 = .ok (.invokevirtual 394, 3) := by decide +kernel
theorem dX10_ondays_33 : decode cX10_ondays 33 = .ok (.aload_n 0, 1) := by decide +kernel
theorem dX10_ondays_34 : decode cX10_ondays 34 = .ok (.aload_n 0, 1) := by decide +kernel
theorem dX10_ondays_35 : decode cX10_ondays 35 = .ok (.invokevirtual 331, 3) := by decide +kernel
theorem dX10_ondays_38 : decode cX10_ondays 38 = .ok (.invokevirtual 334, 3) := by decide +kernel
theorem dX10_ondays_41 : decode cX10_ondays 41 = .ok (.iand, 1) := by decide +kernel
theorem dX10_ondays_42 : decode cX10_ondays 42 = .ok (.invokevirtual 354, 3) := by decide +kernel
theorem dX10_ondays_45 : decode cX10_ondays 45 = .ok (.ireturn, 1) := by decide +kernel
theorem dX10_allripe_0 : decode cX10_allripe 0 = .ok (.aload_n 0, 1) := by decide +kernel
theorem dX10_allripe_1 : decode cX10_allripe 1 = .ok (.iconst 0, 1) := by decide +kernel
theorem dX10_allripe_2 : decode cX10_allripe 2 = .ok (.putfield 87, 3) := by decide +kernel
theorem dX10_allripe_5 : decode cX10_allripe 5 = .ok (.aload_n 0, 1) := by decide +kernel
theorem dX10_allripe_6 : decode cX10_allripe 6 = .ok (.aload_n 0, 1) := by decide +kernel
theorem dX10_allripe_7 : decode cX10_allripe 7 = .ok (.getfield 9, 3) := by decide +kernel
theorem dX10_allripe_10 : decode cX10_allripe 10 = .ok (.iconst 0, 1) := by decide +kernel
theorem dX10_allripe_11 : decode cX10_allripe 11 = .ok (.invokevirtual 244, 3) := by decide +kernel
theorem dX10_allripe_14 : decode cX10_allripe 14 = .ok (.istore_n 1, 1) := by decide +kernel
theorem dX10_allripe_15 : decode cX10_allripe 15 = .ok (.iload_n 1, 1) := by decide +kernel
theorem dX10_allripe_16 : decode cX10_allripe 16 = .ok (.aload_n 0, 1) := by decide +kernel
theorem dX10_allripe_17 : decode cX10_allripe 17 = .ok (.aload_n 0, 1) := by decide +kernel
theorem dX10_allripe_18 : decode cX10_allripe 18 = .ok (.getfield 9, 3) := by decide +kernel
theorem dX10_allripe_21 : decode cX10_allripe 21 = .ok (.bipush 19, 2) := by decide +kernel
theorem dX10_allripe_23 : decode cX10_allripe 23 = .ok (.iaload, 1) := by decide +kernel
theorem dX10_allripe_24 : decode cX10_allripe 24 = .ok (.invokevirtual 301, 3) := by decide +kernel
theorem dX10_allripe_27 : decode cX10_allripe 27 = .ok (.iconst (-1), 1) := by decide +kernel
theorem dX10_allripe_28 : decode cX10_allripe 28 = .ok (.ixor, 1) := by decide +kernel
theorem dX10_allripe_29 : decode cX10_allripe 29 = .ok (.iand, 1) := by decide +kernel
theorem dX10_allripe_30 : decode cX10_allripe 30 = .ok (.istore_n 2, 1) := by decide +kernel
theorem dX10_allripe_31 : decode cX10_allripe 31 = .ok (.aload_n 0, 1) := by decide +kernel
theorem dX10_allripe_32 : decode cX10_allripe 32 = .ok (.getfield 9, 3) := by decide +kernel
theorem dX10_allripe_35 : decode cX10_allripe 35 = .ok (.bipush 19, 2) := by decide +kernel
theorem dX10_allripe_37 : decode cX10_allripe 37 = .ok (.iaload, 1) := by decide +kernel
theorem dX10_allripe_38 : decode cX10_allripe 38 = .ok (.istore_n 3, 1) := by decide +kernel
theorem dX10_allripe_39 : decode cX10_allripe 39 = .ok (.iload_n 1, 1) := by decide +kernel
theorem dX10_allripe_40 : decode cX10_allripe 40 = .ok (.aload_n 0, 1) := by decide +kernel
theorem dX10_allripe_41 : decode cX10_allripe 41 = .ok (.iload_n 3, 1) := by decide +kernel
theorem dX10_allripe_42 : decode cX10_allripe 42 = .ok (.invokevirtual 301, 3) := by decide +kernel
theorem dX10_allripe_45 : decode cX10_allripe 45 = .ok (.iconst (-1), 1) := by decide +kernel
theorem dX10_allripe_46 : decode cX10_allripe 46 = .ok (.ixor, 1) := by decide +kernel
theorem dX10_allripe_47 : decode cX10_allripe 47 = .ok (.iand, 1) := by decide +kernel
theorem dX10_allripe_48 : decode cX10_allripe 48 = .ok (.ifCond .eq 9, 3) := by decide +kernel
theorem dX10_allripe_51 : decode cX10_allripe 51 = .ok (.iinc 3 1, 3) := by decide +kernel
theorem dX10_allripe_54 : decode cX10_allripe 54 = .ok (.goto (-15), 3) := by decide +kernel
theorem dX10_allripe_57 : decode cX10_allripe 57 = .ok (.aload_n 0, 1) := by decide +kernel
theorem dX10_allripe_58 : decode cX10_allripe 58 = .ok (.iconst 0, 1) := by decide +kernel
theorem dX10_allripe_59 : decode cX10_allripe 59 = .ok (.putfield 91, 3) := by decide +kernel
theorem dX10_allripe_62 : decode cX10_allripe 62 = .ok (.aload_n 0, 1) := by decide +kernel
theorem dX10_allripe_63 : decode cX10_allripe 63 = .ok (.iload_n 2, 1) := by decide +kernel
theorem dX10_allripe_64 : decode cX10_allripe 64 = .ok (.invokestatic 280, 3) := by decide +kernel
theorem dX10_allripe_67 : decode cX10_allripe 67 = .ok (.invokevirtual 322, 3) := by decide +kernel
theorem dX10_allripe_70 : decode cX10_allripe 70 = .ok (.aload_n 0, 1) := by decide +kernel
theorem dX10_allripe_71 : decode cX10_allripe 71 = .ok (.aload_n 0, 1) := by decide +kernel
theorem dX10_allripe_72 : decode cX10_allripe 72 = .ok (.iload_n 2, 1) := by decide +kernel
theorem dX10_allripe_73 : decode cX10_allripe 73 = .ok (.aload_n 0, 1) := by decide +kernel
theorem dX10_allripe_74 : decode cX10_allripe 74 = .ok (.getfield 9, 3) := by decide +kernel
theorem dX10_allripe_77 : decode cX10_allripe 77 = .ok (.bipush 16, 2) := by decide +kernel
theorem dX10_allripe_79 : decode cX10_allripe 79 = .ok (.iaload, 1) := by decide +kernel
theorem dX10_allripe_80 : decode cX10_allripe 80 = .ok (.invokevirtual 325, 3) := by decide +kernel
theorem dX10_allripe_83 : decode cX10_allripe 83 = .ok (.invokevirtual 322, 3) := by decide +kernel
theorem dX10_allripe_86 : decode cX10_allripe 86 = .ok (.iload_n 3, 1) := by decide +kernel
theorem dX10_allripe_87 : decode cX10_allripe 87 = .ok (.ireturn, 1) := by decide +kernel
theorem dX10_grass_0 : decode cX10_grass 0 = .ok (.aload_n 0, 1) := by decide +kernel
theorem dX10_grass_1 : decode cX10_grass 1 = .ok (.iconst 0, 1) := by decide +kernel
theorem dX10_grass_2 : decode cX10_grass 2 = .ok (.putfield 87, 3) := by decide +kernel
theorem dX10_grass_5 : decode cX10_grass 5 = .ok (.aload_n 0, 1) := by decide +kernel
theorem dX10_grass_6 : decode cX10_grass 6 = .ok (.aload_n 0, 1) := by decide +kernel
theorem dX10_grass_7 : decode cX10_grass 7 = .ok (.getfield 34, 3) := by decide +kernel
theorem dX10_grass_10 : decode cX10_grass 10 = .ok (.aload_n 0, 1) := by decide +kernel
theorem dX10_grass_11 : decode cX10_grass 11 = .ok (.getfield 104, 3) := by decide +kernel
theorem dX10_grass_14 : decode cX10_grass 14 = .ok (.bipush 80, 2) := by decide +kernel
theorem dX10_grass_16 : decode cX10_grass 16 = .ok (.invokevirtual 152, 3) := by decide +kernel
theorem dX10_grass_19 : decode cX10_grass 19 = .ok (.aload_n 0, 1) := by decide +kernel
theorem dX10_grass_20 : decode cX10_grass 20 = .ok (.iconst 0, 1) := by decide +kernel
theorem dX10_grass_21 : decode cX10_grass 21 = .ok (.putfield 104, 3) := by decide +kernel
theorem dX10_grass_24 : decode cX10_grass 24 = .ok (.iload_n 1, 1) := by decide +kernel
theorem dX10_grass_25 : decode cX10_grass 25 = .ok (.iconst 0, 1) := by decide +kernel
theorem dX10_grass_26 : decode cX10_grass 26 = .ok (.bipush 99, 2) := by decide +kernel
theorem dX10_grass_28 : decode cX10_grass 28 = .ok (.invokestatic 97, 3) := by decide +kernel
theorem dX10_grass_31 : decode cX10_grass 31 = .ok (.ifCond .ne 6, 3) := by decide +kernel
theorem dX10_grass_34 : decode cX10_grass 34 = .ok (.bipush (-100), 2) := by decide +kernel
theorem dX10_grass_36 : decode cX10_grass 36 = .ok (.ireturn, 1) := by decide +kernel
theorem dX10_grass_37 : decode cX10_grass 37 = .ok (.iconst 0, 1) := by decide +kernel
theorem dX10_grass_38 : decode cX10_grass 38 = .ok (.istore_n 2, 1) := by decide +kernel
theorem dX10_grass_39 : decode cX10_grass 39 = .ok (.iconst 1, 1) := by decide +kernel
theorem dX10_grass_40 : decode cX10_grass 40 = .ok (.istore_n 3, 1) := by decide +kernel
theorem dX10_grass_41 : decode cX10_grass 41 = .ok (.iload_n 3, 1) := by decide +kernel
theorem dX10_grass_42 : decode cX10_grass 42 = .ok (.ifCond .eq 51, 3) := by decide +kernel
theorem dX10_grass_45 : decode cX10_grass 45 = .ok (.aload_n 0, 1) := by decide +kernel
theorem dX10_grass_46 : decode cX10_grass 46 = .ok (.invokevirtual 122, 3) := by decide +kernel
theorem dX10_grass_49 : decode cX10_grass 49 = .ok (.ifCond .eq 44, 3) := by decide +kernel
theorem dX10_grass_52 : decode cX10_grass 52 = .ok (.iload_n 2, 1) := by decide +kernel
theorem dX10_grass_53 : decode cX10_grass 53 = .ok (.bipush 6, 2) := by decide +kernel
theorem dX10_grass_55 : decode cX10_grass 55 = .ok (.if_icmp .ne 14, 3) := by decide +kernel
theorem dX10_grass_58 : decode cX10_grass 58 = .ok (.aload_n 0, 1) := by decide +kernel
