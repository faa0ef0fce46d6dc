theorem dX10_act_98 : decode cX10_act 98 = .ok (.iload_n 1, 1) := by decide +kernel
theorem dX10_act_99 : decode cX10_act 99 = .ok (.bipush 104, 2) := by decide +kernel
theorem dX10_act_101 : decode cX10_act 101 = .ok (.if_icmp .ne 7, 3) := by decide +kernel
theorem dX10_act_104 : decode cX10_act 104 = .ok (.iconst 1, 1) := by decide +kernel
theorem dX10_act_105 : decode cX10_act 105 = .ok (.goto 4, 3) := by decide +kernel
theorem dX10_act_108 : decode cX10_act 108 = .ok (.iconst 0, 1) := by decide +kernel
theorem dX10_act_109 : decode cX10_act 109 = .ok (.istore_n 3, 1) := by decide +kernel
theorem dX10_act_110 : decode cX10_act 110 = .ok (.aload_n 0, 1) := by decide +kernel
theorem dX10_act_111 : decode cX10_act 111 = .ok (.iload_n 2, 1) := by decide +kernel
theorem dX10_act_112 : decode cX10_act 112 = .ok (.iload_n 3, 1) := by decide +kernel
theorem dX10_act_113 : decode cX10_act 113 = .ok (.invokevirtual 289, 3) := by decide +kernel
theorem dX10_act_116 : decode cX10_act 116 = .ok (.ifCond .ge 5, 3) := by decide +kernel
theorem dX10_act_119 : decode cX10_act 119 = .ok (.iconst 0, 1) := by decide +kernel
theorem dX10_act_120 : decode cX10_act 120 = .ok (.ireturn, 1) := by decide +kernel
theorem dX10_act_121 : decode cX10_act 121 = .ok (.aload_n 0, 1) := by decide +kernel
theorem dX10_act_122 : decode cX10_act 122 = .ok (.iload_n 2, 1) := by decide +kernel
theorem dX10_act_123 : decode cX10_act 123 = .ok (.iload_n 3, 1) := by decide +kernel
theorem dX10_act_124 : decode cX10_act 124 = .ok (.invokevirtual 292, 3) := by decide +kernel
theorem dX10_act_127 : decode cX10_act 127 = .ok (.pop, 1) := by decide +kernel
theorem dX10_act_128 : decode cX10_act 128 = .ok (.aload_n 0, 1) := by decide +kernel
theorem dX10_act_129 : decode cX10_act 129 = .ok (.dup, 1) := by decide +kernel
theorem dX10_act_130 : decode cX10_act 130 = .ok (.getfield 316, 3) := by decide +kernel
theorem dX10_act_133 : decode cX10_act 133 = .ok (.iconst 1, 1) := by decide +kernel
theorem dX10_act_134 : decode cX10_act 134 = .ok (.iadd, 1) := by decide +kernel
theorem dX10_act_135 : decode cX10_act 135 = .ok (.putfield 316, 3) := by decide +kernel
theorem dX10_act_138 : decode cX10_act 138 = .ok (.iconst 1, 1) := by decide +kernel
theorem dX10_act_139 : decode cX10_act 139 = .ok (.ireturn, 1) := by decide +kernel
theorem dX10_act_140 : decode cX10_act 140 = .ok (.aload_n 0, 1) := by decide +kernel
theorem dX10_act_141 : decode cX10_act 141 = .ok (.invokevirtual 295, 3) := by decide +kernel
theorem dX10_act_144 : decode cX10_act 144 = .ok (.ifCond .ne 5, 3) := by decide +kernel
theorem dX10_act_147 : decode cX10_act 147 = .ok (.iconst 0, 1) := by decide +kernel
theorem dX10_act_148 : decode cX10_act 148 = .ok (.ireturn, 1) := by decide +kernel
theorem dX10_act_149 : decode cX10_act 149 = .ok (.aload_n 0, 1) := by decide +kernel
theorem dX10_act_150 : decode cX10_act 150 = .ok (.invokevirtual 298, 3) := by decide +kernel
theorem dX10_act_153 : decode cX10_act 153 = .ok (.pop, 1) := by decide +kernel
theorem dX10_act_154 : decode cX10_act 154 = .ok (.iconst 1, 1) := by decide +kernel
theorem dX10_act_155 : decode cX10_act 155 = .ok (.ireturn, 1) := by decide +kernel
theorem dX10_act_156 : decode cX10_act 156 = .ok (.aload_n 0, 1) := by decide +kernel
theorem dX10_act_157 : decode cX10_act 157 = .ok (.getfield 9, 3) := by decide +kernel
theorem dX10_act_160 : decode cX10_act 160 = .ok (.bipush 17, 2) := by decide +kernel
theorem dX10_act_162 : decode cX10_act 162 = .ok (.iaload, 1) := by decide +kernel
theorem dX10_act_163 : decode cX10_act 163 = .ok (.iconst (-1), 1) := by decide +kernel
theorem dX10_act_164 : decode cX10_act 164 = .ok (.if_icmp .ne 5, 3) := by decide +kernel
theorem dX10_act_167 : decode cX10_act 167 = .ok (.iconst 0, 1) := by decide +kernel
theorem dX10_act_168 : decode cX10_act 168 = .ok (.ireturn, 1) := by decide +kernel
theorem dX10_act_169 : decode cX10_act 169 = .ok (.aload_n 0, 1) := by decide +kernel
theorem dX10_act_170 : decode cX10_act 170 = .ok (.invokevirtual 307, 3) := by decide +kernel
theorem dX10_act_173 : decode cX10_act 173 = .ok (.pop, 1) := by decide +kernel
theorem dX10_act_174 : decode cX10_act 174 = .ok (.iconst 1, 1) := by decide +kernel
theorem dX10_act_175 : decode cX10_act 175 = .ok (.ireturn, 1) := by decide +kernel
theorem dX10_act_176 : decode cX10_act 176 = .ok (.aload_n 0, 1) := by decide +kernel
theorem dX10_act_177 : decode cX10_act 177 = .ok (.getfield 9, 3) := by decide +kernel
theorem dX10_act_180 : decode cX10_act 180 = .ok (.bipush 18, 2) := by decide +kernel
theorem dX10_act_182 : decode cX10_act 182 = .ok (.iload_n 1, 1) := by decide +kernel
theorem dX10_act_183 : decode cX10_act 183 = .ok (.bipush 97, 2) := by decide +kernel
theorem dX10_act_185 : decode cX10_act 185 = .ok (.if_icmp .ne 7, 3) := by decide +kernel
theorem dX10_act_188 : decode cX10_act 188 = .ok (.iconst 1, 1) := by decide +kernel
theorem dX10_act_189 : decode cX10_act 189 = .ok (.goto 4, 3) := by decide +kernel
theorem dX10_act_192 : decode cX10_act 192 = .ok (.iconst 0, 1) := by decide +kernel
theorem dX10_act_193 : decode cX10_act 193 = .ok (.iastore, 1) := by decide +kernel
theorem dX10_act_194 : decode cX10_act 194 = .ok (.iconst 1, 1) := by decide +kernel
theorem dX10_act_195 : decode cX10_act 195 = .ok (.ireturn, 1) := by decide +kernel
theorem dX10_act_196 : decode cX10_act 196 = .ok (.aload_n 0, 1) := by decide +kernel
theorem dX10_act_197 : decode cX10_act 197 = .ok (.getfield 9, 3) := by decide +kernel
theorem dX10_act_200 : decode cX10_act 200 = .ok (.bipush 19, 2) := by decide +kernel
theorem dX10_act_202 : decode cX10_act 202 = .ok (.iaload, 1) := by decide +kernel
theorem dX10_act_203 : decode cX10_act 203 = .ok (.bipush 9, 2) := by decide +kernel
theorem dX10_act_205 : decode cX10_act 205 = .ok (.if_icmp .ne 5, 3) := by decide +kernel
theorem dX10_act_208 : decode cX10_act 208 = .ok (.iconst 0, 1) := by decide +kernel
theorem dX10_act_209 : decode cX10_act 209 = .ok (.ireturn, 1) := by decide +kernel
theorem dX10_act_210 : decode cX10_act 210 = .ok (.aload_n 0, 1) := by decide +kernel
theorem dX10_act_211 : decode cX10_act 211 = .ok (.invokevirtual 310, 3) := by decide +kernel
theorem dX10_act_214 : decode cX10_act 214 = .ok (.pop, 1) := by decide +kernel
theorem dX10_act_215 : decode cX10_act 215 = .ok (.iconst 1, 1) := by decide +kernel
theorem dX10_act_216 : decode cX10_act 216 = .ok (.ireturn, 1) := by decide +kernel
theorem dX10_tell_0 : decode cX10_tell 0 = .ok (.aload_n 0, 1) := by decide +kernel
theorem dX10_tell_1 : decode cX10_tell 1 = .ok (.getfield 38, 3) := by decide +kernel
theorem dX10_tell_4 : decode cX10_tell 4 = .ok (.aload_n 0, 1) := by decide +kernel
theorem dX10_tell_5 : decode cX10_tell 5 = .ok (.getfield 91, 3) := by decide +kernel
theorem dX10_tell_8 : decode cX10_tell 8 = .ok (.iload_n 1, 1) := by decide +kernel
theorem dX10_tell_9 : decode cX10_tell 9 = .ok (.iastore, 1) := by decide +kernel
theorem dX10_tell_10 : decode cX10_tell 10 = .ok (.aload_n 0, 1) := by decide +kernel
theorem dX10_tell_11 : decode cX10_tell 11 = .ok (.dup, 1) := by decide +kernel
theorem dX10_tell_12 : decode cX10_tell 12 = .ok (.getfield 91, 3) := by decide +kernel
theorem dX10_tell_15 : decode cX10_tell 15 = .ok (.iconst 1, 1) := by decide +kernel
theorem dX10_tell_16 : decode cX10_tell 16 = .ok (.iadd, 1) := by decide +kernel
theorem dX10_tell_17 : decode cX10_tell 17 = .ok (.putfield 91, 3) := by decide +kernel
theorem dX10_tell_20 : decode cX10_tell 20 = .ok (.return_, 1) := by decide +kernel
theorem dX10_day_0 : decode cX10_day 0 = .ok (.aload_n 0, 1) := by decide +kernel
theorem dX10_day_1 : decode cX10_day 1 = .ok (.iconst 0, 1) := by decide +kernel
theorem dX10_day_2 : decode cX10_day 2 = .ok (.putfield 87, 3) := by decide +kernel
theorem dX10_day_5 : decode cX10_day 5 = .ok (.aload_n 0, 1) := by decide +kernel
theorem dX10_day_6 : decode cX10_day 6 = .ok (.aload_n 0, 1) := by decide +kernel
theorem dX10_day_7 : decode cX10_day 7 = .ok (.getfield 34, 3) := by decide +kernel
theorem dX10_day_10 : decode cX10_day 10 = .ok (.aload_n 0, 1) := by decide +kernel
theorem dX10_day_11 : decode cX10_day 11 = .ok (.getfield 104, 3) := by decide +kernel
theorem dX10_day_14 : decode cX10_day 14 = .ok (.bipush 60, 2) := by decide +kernel
theorem dX10_day_16 : decode cX10_day 16 = .ok (.invokevirtual 152, 3) := by decide +kernel
theorem dX10_day_19 : decode cX10_day 19 = .ok (.aload_n 0, 1) := by decide +kernel
theorem dX10_day_20 : decode cX10_day 20 = .ok (.iconst 0, 1) := by decide +kernel
theorem dX10_day_21 : decode cX10_day 21 = .ok (.putfield 104, 3) := by decide +kernel
theorem dX10_day_24 : decode cX10_day 24 = .ok (.iconst 0, 1) := by decide +kernel
theorem dX10_day_25 : decode cX10_day 25 = .ok (.istore_n 1, 1) := by decide +kernel
theorem dX10_day_26 : decode cX10_day 26 = .ok (.aload_n 0, 1) := by decide +kernel
theorem dX10_day_27 : decode cX10_day 27 = .ok (.getfield 110, 3) := by decide +kernel
theorem dX10_day_30 : decode cX10_day 30 = .ok (.ifCond .le 7, 3) := by decide +kernel
theorem dX10_day_33 : decode cX10_day 33 = .ok (.iconst 1, 1) := by decide +kernel
theorem dX10_day_34 : decode cX10_day 34 = .ok (.goto 4, 3) := by decide +kernel
theorem dX10_day_37 : decode cX10_day 37 = .ok (.iconst 0, 1) := by decide +kernel
theorem dX10_day_38 : decode cX10_day 38 = .ok (.istore_n 2, 1) := by decide +kernel
theorem dX10_day_39 : decode cX10_day 39 = .ok (.iload_n 2, 1) := by decide +kernel
theorem dX10_day_40 : decode cX10_day 40 = .ok (.ifCond .eq 30, 3) := by decide +kernel
theorem dX10_day_43 : decode cX10_day 43 = .ok (.aload_n 0, 1) := by decide +kernel
theorem dX10_day_44 : decode cX10_day 44 = .ok (.invokevirtual 122, 3) := by decide +kernel
theorem dX10_day_47 : decode cX10_day 47 = .ok (.ifCond .eq 23, 3) := by decide +kernel
theorem dX10_day_50 : decode cX10_day 50 = .ok (.aload_n 0, 1) := by decide +kernel
theorem dX10_day_51 : decode cX10_day 51 = .ok (.iconst 2, 1) := by decide +kernel
theorem dX10_day_52 : decode cX10_day 52 = .ok (.iload_n 1, 1) := by decide +kernel
theorem dX10_day_53 : decode cX10_day 53 = .ok (.imul, 1) := by decide +kernel
theorem dX10_day_54 : decode cX10_day 54 = .ok (.invokevirtual 313, 3) := by decide +kernel
theorem dX10_day_57 : decode cX10_day 57 = .ok (.iinc 1 1, 3) := by decide +kernel
theorem dX10_day_60 : decode cX10_day 60 = .ok (.aload_n 0, 1) := by decide +kernel
theorem dX10_day_61 : decode cX10_day 61 = .ok (.bipush 59, 2) := by decide +kernel
theorem dX10_day_63 : decode cX10_day 63 = .ok (.invokevirtual 130, 3) := by decide +kernel
theorem dX10_day_66 : decode cX10_day 66 = .ok (.istore_n 2, 1) := by decide +kernel
theorem dX10_day_67 : decode cX10_day 67 = .ok (.goto (-28), 3) := by decide +kernel
theorem dX10_day_70 : decode cX10_day 70 = .ok (.aload_n 0, 1) := by decide +kernel
theorem dX10_day_71 : decode cX10_day 71 = .ok (.getfield 116, 3) := by decide +kernel
theorem dX10_day_74 : decode cX10_day 74 = .ok (.aload_n 0, 1) := by decide +kernel
theorem dX10_day_75 : decode cX10_day 75 = .ok (.getfield 110, 3) := by decide +kernel
theorem dX10_day_78 : decode cX10_day 78 = .ok (.if_icmp .ge 11, 3) := by decide +kernel
theorem dX10_day_81 : decode cX10_day 81 = .ok (.aload_n 0, 1) := by decide +kernel
theorem dX10_day_82 : decode cX10_day 82 = .ok (.aload_n 0, 1) := by decide +kernel
theorem dX10_day_83 : decode cX10_day 83 = .ok (.getfield 116, 3) := by decide +kernel
theorem dX10_day_86 : decode cX10_day 86 = .ok (.invokevirtual 134, 3) := by decide +kernel
theorem dX10_day_89 : decode cX10_day 89 = .ok (.aload_n 0, 1) := by decide +kernel
theorem dX10_day_90 : decode cX10_day 90 = .ok (.invokevirtual 122, 3) := by decide +kernel
theorem dX10_day_93 : decode cX10_day 93 = .ok (.ifCond .ne 10, 3) := by decide +kernel
theorem dX10_day_96 : decode cX10_day 96 = .ok (.iconst (-1), 1) := by decide +kernel
theorem dX10_day_97 : decode cX10_day 97 = .ok (.aload_n 0, 1) := by decide +kernel
theorem dX10_day_98 : decode cX10_day 98 = .ok (.getfield 119, 3) := by decide +kernel
theorem dX10_day_101 : decode cX10_day 101 = .ok (.isub, 1) := by decide +kernel
theorem dX10_day_102 : decode cX10_day 102 = .ok (.ireturn, 1) := by decide +kernel
theorem dX10_day_103 : decode cX10_day 103 = .ok (.aload_n 0, 1) := by decide +kernel
theorem dX10_day_104 : decode cX10_day 104 = .ok (.getfield 9, 3) := by decide +kernel
theorem dX10_day_107 : decode cX10_day 107 = .ok (.aload_n 0, 1) := by decide +kernel
theorem dX10_day_108 : decode cX10_day 108 = .ok (.getfield 53, 3) := by decide +kernel
theorem dX10_day_111 : decode cX10_day 111 = .ok (.iconst 0, 1) := by decide +kernel
theorem dX10_day_112 : decode cX10_day 112 = .ok (.invokestatic 257, 3) := by decide +kernel
theorem dX10_day_115 : decode cX10_day 115 = .ok (.aload_n 0, 1) := by decide +kernel
theorem dX10_day_116 : decode cX10_day 116 = .ok (.iconst 0, 1) := by decide +kernel
theorem dX10_day_117 : decode cX10_day 117 = .ok (.putfield 316, 3) := by decide +kernel
theorem dX10_day_120 : decode cX10_day 120 = .ok (.iconst 0, 1) := by decide +kernel
theorem dX10_day_121 : decode cX10_day 121 = .ok (.istore_n 3, 1) := by decide +kernel
theorem dX10_day_122 : decode cX10_day 122 = .ok (.iload_n 3, 1) := by decide +kernel
theorem dX10_day_123 : decode cX10_day 123 = .ok (.iload_n 1, 1) := by decide +kernel
theorem dX10_day_124 : decode cX10_day 124 = .ok (.if_icmp .ge 34, 3) := by decide +kernel
theorem dX10_day_127 : decode cX10_day 127 = .ok (.aload_n 0, 1) := by decide +kernel
theorem dX10_day_128 : decode cX10_day 128 = .ok (.aload_n 0, 1) := by decide +kernel
theorem dX10_day_129 : decode cX10_day 129 = .ok (.getfield 56, 3) := by decide +kernel
theorem dX10_day_132 : decode cX10_day 132 = .ok (.iconst 2, 1) := by decide +kernel
theorem dX10_day_133 : decode cX10_day 133 = .ok (.iload_n 3, 1) := by decide +kernel
theorem dX10_day_134 : decode cX10_day 134 = .ok (.imul, 1) := by decide +kernel
theorem dX10_day_135 : decode cX10_day 135 = .ok (.iaload, 1) := by decide +kernel
theorem dX10_day_136 : decode cX10_day 136 = .ok (.aload_n 0, 1) := by decide +kernel
theorem dX10_day_137 : decode cX10_day 137 = .ok (.getfield 56, 3) := by decide +kernel
theorem dX10_day_140 : decode cX10_day 140 = .ok (.iconst 2, 1) := by decide +kernel
theorem dX10_day_141 : decode cX10_day 141 = .ok (.iload_n 3, 1) := by decide +kernel
theorem dX10_day_142 : decode cX10_day 142 = .ok (.imul, 1) := by decide +kernel
theorem dX10_day_143 : decode cX10_day 143 = .ok (.iconst 1, 1) := by decide +kernel
theorem dX10_day_144 : decode cX10_day 144 = .ok (.iadd, 1) := by decide +kernel
theorem dX10_day_145 : decode cX10_day 145 = .ok (.iaload, 1) := by decide +kernel
theorem dX10_day_146 : decode cX10_day 146 = .ok (.invokevirtual 319, 3) := by decide +kernel
theorem dX10_day_149 : decode cX10_day 149 = .ok (.ifCond .eq 9, 3) := by decide +kernel
theorem dX10_day_152 : decode cX10_day 152 = .ok (.iinc 3 1, 3) := by decide +kernel
theorem dX10_day_155 : decode cX10_day 155 = .ok (.goto (-33), 3) := by decide +kernel
theorem dX10_day_158 : decode cX10_day 158 = .ok (.iload_n 3, 1) := by decide +kernel
theorem dX10_day_159 : decode cX10_day 159 = .ok (.ifCond .le 11, 3) := by decide +kernel
theorem dX10_day_162 : decode cX10_day 162 = .ok (.aload_n 0, 1) := by decide +kernel
theorem dX10_day_163 : decode cX10_day 163 = .ok (.aload_n 0, 1) := by decide +kernel
theorem dX10_day_164 : decode cX10_day 164 = .ok (.getfield 53, 3) := by decide +kernel
theorem dX10_day_167 : decode cX10_day 167 = .ok (.invokevirtual 273, 3) := by decide +kernel
theorem dX10_day_170 : decode cX10_day 170 = .ok (.aload_n 0, 1) := by decide +kernel
theorem dX10_day_171 : decode cX10_day 171 = .ok (.iconst 0, 1) := by decide +kernel
theorem dX10_day_172 : decode cX10_day 172 = .ok (.putfield 91, 3) := by decide +kernel
theorem dX10_day_175 : decode cX10_day 175 = .ok (.aload_n 0, 1) := by decide +kernel
theorem dX10_day_176 : decode cX10_day 176 = .ok (.iload_n 3, 1) := by decide +kernel
theorem dX10_day_177 : decode cX10_day 177 = .ok (.iload_n 1, 1) := by decide +kernel
theorem dX10_day_178 : decode cX10_day 178 = .ok (.if_icmp .ge 7, 3) := by decide +kernel
theorem dX10_day_181 : decode cX10_day 181 = .ok (.iconst 1, 1) := by decide +kernel
theorem dX10_day_182 : decode cX10_day 182 = .ok (.goto 4, 3) := by decide +kernel
theorem dX10_day_185 : decode cX10_day 185 = .ok (.iconst 0, 1) := by decide +kernel
theorem dX10_day_186 : decode cX10_day 186 = .ok (.invokevirtual 322, 3) := by decide +kernel
theorem dX10_day_189 : decode cX10_day 189 = .ok (.aload_n 0, 1) := by decide +kernel
theorem dX10_day_190 : decode cX10_day 190 = .ok (.aload_n 0, 1) := by decide +kernel
theorem dX10_day_191 : decode cX10_day 191 = .ok (.getfield 316, 3) := by decide +kernel
theorem dX10_day_194 : decode cX10_day 194 = .ok (.invokevirtual 322, 3) := by decide +kernel
theorem dX10_day_197 : decode cX10_day 197 = .ok (.iload_n 3, 1) := by decide +kernel
theorem dX10_day_198 : decode cX10_day 198 = .ok (.ireturn, 1) := by decide +kernel
theorem dX10_undo_0 : decode cX10_undo 0 = .ok (.aload_n 0, 1) := by decide +kernel
theorem dX10_undo_1 : decode cX10_undo 1 = .ok (.iconst 0, 1) := by decide +kernel
theorem dX10_undo_2 : decode cX10_undo 2 = .ok (.putfield 87, 3) := by decide +kernel
theorem dX10_undo_5 : decode cX10_undo 5 = .ok (.aload_n 0, 1) := by decide +kernel
theorem dX10_undo_6 : decode cX10_undo 6 = .ok (.getfield 159, 3) := by decide +kernel
theorem dX10_undo_9 : decode cX10_undo 9 = .ok (.ifCond .ne 5, 3) := by decide +kernel
theorem dX10_undo_12 : decode cX10_undo 12 = .ok (.iconst (-1), 1) := by decide +kernel
theorem dX10_undo_13 : decode cX10_undo 13 = .ok (.ireturn, 1) := by decide +kernel
theorem dX10_undo_14 : decode cX10_undo 14 = .ok (.aload_n 0, 1) := by decide +kernel
theorem dX10_undo_15 : decode cX10_undo 15 = .ok (.dup, 1) := by decide +kernel
theorem dX10_undo_16 : decode cX10_undo 16 = .ok (.getfield 159, 3) := by decide +kernel
theorem dX10_undo_19 : decode cX10_undo 19 = .ok (.iconst 1, 1) := by decide +kernel
theorem dX10_undo_20 : decode cX10_undo 20 = .ok (.isub, 1) := by decide +kernel
theorem dX10_undo_21 : decode cX10_undo 21 = .ok (.putfield 159, 3) := by decide +kernel
theorem dX10_undo_24 : decode cX10_undo 24 = .ok (.iconst 0, 1) := by decide +kernel
theorem dX10_undo_25 : decode cX10_undo 25 = .ok (.istore_n 1, 1) := by decide +kernel
theorem dX10_undo_26 : decode cX10_undo 26 = .ok (.iload_n 1, 1) := by decide +kernel
theorem dX10_undo_27 : decode cX10_undo 27 = .ok (.bipush 21, 2) := by decide +kernel
theorem dX10_undo_29 : decode cX10_undo 29 = .ok (.if_icmp .ge 29, 3) := by decide +kernel
theorem dX10_undo_32 : decode cX10_undo 32 = .ok (.aload_n 0, 1) := by decide +kernel
theorem dX10_undo_33 : decode cX10_undo 33 = .ok (.getfield 9, 3) := by decide +kernel
theorem dX10_undo_36 : decode cX10_undo 36 = .ok (.iload_n 1, 1) := by decide +kernel
theorem dX10_undo_37 : decode cX10_undo 37 = .ok (.aload_n 0, 1) := by decide +kernel
theorem dX10_undo_38 : decode cX10_undo 38 = .ok (.getfield 50, 3) := by decide +kernel
theorem dX10_undo_41 : decode cX10_undo 41 = .ok (.bipush 21, 2) := by decide +kernel
theorem dX10_undo_43 : decode cX10_undo 43 = .ok (.aload_n 0, 1) := by decide +kernel
theorem dX10_undo_44 : decode cX10_undo 44 = .ok (.getfield 159, 3) := by decide +kernel
theorem dX10_undo_47 : decode cX10_undo 47 = .ok (.imul, 1) := by decide +kernel
theorem dX10_undo_48 : decode cX10_undo 48 = .ok (.iload_n 1, 1) := by decide +kernel
theorem dX10_undo_49 : decode cX10_undo 49 = .ok (.iadd, 1) := by decide +kernel
theorem dX10_undo_50 : decode cX10_undo 50 = .ok (.iaload, 1) := by decide +kernel
theorem dX10_undo_51 : decode cX10_undo 51 = .ok (.iastore, 1) := by decide +kernel
theorem dX10_undo_52 : decode cX10_undo 52 = .ok (.iinc 1 1, 3) := by decide +kernel
theorem dX10_undo_55 : decode cX10_undo 55 = .ok (.goto (-29), 3) := by decide +kernel
theorem dX10_undo_58 : decode cX10_undo 58 = .ok (.aload_n 0, 1) := by decide +kernel
theorem dX10_undo_59 : decode cX10_undo 59 = .ok (.getfield 159, 3) := by decide +kernel
theorem dX10_undo_62 : decode cX10_undo 62 = .ok (.ireturn, 1) := by decide +kernel
theorem dX10_reached_0 : decode cX10_reached 0 = .ok (.aload_n 0, 1) := by decide +kernel
theorem dX10_reached_1 : decode cX10_reached 1 = .ok (.iconst 0, 1) := by decide +kernel
theorem dX10_reached_2 : decode cX10_reached 2 = .ok (.putfield 87, 3) := by decide +kernel
theorem dX10_reached_5 : decode cX10_reached 5 = .ok (.aload_n 0, 1) := by decide +kernel
theorem dX10_reached_6 : decode cX10_reached 6 = .ok (.iload_n 1, 1) := by decide +kernel
theorem dX10_reached_7 : decode cX10_reached 7 = .ok (.invokevirtual 251, 3) := by decide +kernel
theorem dX10_reached_10 : decode cX10_reached 10 = .ok (.ifCond .ne 5, 3) := by decide +kernel
theorem dX10_reached_13 : decode cX10_reached 13 = .ok (.iconst (-1), 1) := by decide +kernel
theorem dX10_reached_14 : decode cX10_reached 14 = .ok (.ireturn, 1) := by decide +kernel
theorem dX10_reached_15 : decode cX10_reached 15 = .ok (.aload_n 0, 1) := by decide +kernel
theorem dX10_reached_16 : decode cX10_reached 16 = .ok (.iconst 0, 1) := by decide +kernel
theorem dX10_reached_17 : decode cX10_reached 17 = .ok (.putfield 91, 3) := by decide +kernel
theorem dX10_reached_20 : decode cX10_reached 20 = .ok (.aload_n 0, 1) := by decide +kernel
theorem dX10_reached_21 : decode cX10_reached 21 = .ok (.aload_n 0, 1) := by decide +kernel
theorem dX10_reached_22 : decode cX10_reached 22 = .ok (.iload_n 1, 1) := by decide +kernel
theorem dX10_reached_23 : decode cX10_reached 23 = .ok (.iconst 1, 1) := by decide +kernel
theorem dX10_reached_24 : decode cX10_reached 24 = .ok (.iconst 0, 1) := by decide +kernel
theorem dX10_reached_25 : decode cX10_reached 25 = .ok (.invokevirtual 220, 3) := by decide +kernel
theorem dX10_reached_28 : decode cX10_reached 28 = .ok (.invokevirtual 322, 3) := by decide +kernel
theorem dX10_reached_31 : decode cX10_reached 31 = .ok (.aload_n 0, 1) := by decide +kernel
theorem dX10_reached_32 : decode cX10_reached 32 = .ok (.aload_n 0, 1) := by decide +kernel
theorem dX10_reached_33 : decode cX10_reached 33 = .ok (.iload_n 1, 1) := by decide +kernel
theorem dX10_reached_34 : decode cX10_reached 34 = .ok (.iconst 1, 1) := by decide +kernel
theorem dX10_reached_35 : decode cX10_reached 35 = .ok (.iconst 1, 1) := by decide +kernel
theorem dX10_reached_36 : decode cX10_reached 36 = .ok (.invokevirtual 220, 3) := by decide +kernel
theorem dX10_reached_39 : decode cX10_reached 39 = .ok (.invokevirtual 322, 3) := by decide +kernel
theorem dX10_reached_42 : decode cX10_reached 42 = .ok (.aload_n 0, 1) := by decide +kernel
theorem dX10_reached_43 : decode cX10_reached 43 = .ok (.iload_n 1, 1) := by decide +kernel
theorem dX10_reached_44 : decode cX10_reached 44 = .ok (.iconst 0, 1) := by decide +kernel
theorem dX10_reached_45 : decode cX10_reached 45 = .ok (.iconst 0, 1) := by decide +kernel
theorem dX10_reached_46 : decode cX10_reached 46 = .ok (.invokevirtual 220, 3) := by decide +kernel
theorem dX10_reached_49 : decode cX10_reached 49 = .ok (.ireturn, 1) := by decide +kernel
theorem dX10_from_0 : decode cX10_from 0 = .ok (.aload_n 0, 1) := by decide +kernel
theorem dX10_from_1 : decode cX10_from 1 = .ok (.iconst 0, 1) := by decide +kernel
theorem dX10_from_2 : decode cX10_from 2 = .ok (.putfield 87, 3) := by decide +kernel
theorem dX10_from_5 : decode cX10_from 5 = .ok (.aload_n 0, 1) := by decide +kernel
theorem dX10_from_6 : decode cX10_from 6 = .ok (.iload_n 1, 1) := by decide +kernel
theorem dX10_from_7 : decode cX10_from 7 = .ok (.invokevirtual 237, 3) := by decide +kernel
theorem dX10_from_10 : decode cX10_from 10 = .ok (.ifCond .eq 12, 3) := by decide +kernel
theorem dX10_from_13 : decode cX10_from 13 = .ok (.iload_n 2, 1) := by decide +kernel
theorem dX10_from_14 : decode cX10_from 14 = .ok (.iconst 0, 1) := by decide +kernel
theorem dX10_from_15 : decode cX10_from 15 = .ok (.iconst 1, 1) := by decide +kernel
theorem dX10_from_16 : decode cX10_from 16 = .ok (.invokestatic 97, 3) := by decide +kernel
theorem dX10_from_19 : decode cX10_from 19 = .ok (.ifCond .ne 5, 3) := by decide +kernel
theorem dX10_from_22 : decode cX10_from 22 = .ok (.iconst (-1), 1) := by decide +kernel
theorem dX10_from_23 : decode cX10_from 23 = .ok (.ireturn, 1) := by decide +kernel
theorem dX10_from_24 : decode cX10_from 24 = .ok (.iconst 0, 1) := by decide +kernel
theorem dX10_from_25 : decode cX10_from 25 = .ok (.istore_n 3, 1) := by decide +kernel
theorem dX10_from_26 : decode cX10_from 26 = .ok (.iconst 0, 1) := by decide +kernel
theorem dX10_from_27 : decode cX10_from 27 = .ok (.istore 4, 2) := by decide +kernel
theorem dX10_from_29 : decode cX10_from 29 = .ok (.iload 4, 2) := by decide +kernel
theorem dX10_from_31 : decode cX10_from 31 = .ok (.aload_n 0, 1) := by decide +kernel
theorem dX10_from_32 : decode cX10_from 32 = .ok (.getfield 101, 3) := by decide +kernel
theorem dX10_from_35 : decode cX10_from 35 = .ok (.if_icmp .ge 42, 3) := by decide +kernel
theorem dX10_from_38 : decode cX10_from 38 = .ok (.iload_n 3, 1) := by decide +kernel
theorem dX10_from_39 : decode cX10_from 39 = .ok (.aload_n 0, 1) := by decide +kernel
theorem dX10_from_40 : decode cX10_from 40 = .ok (.iload_n 1, 1) := by decide +kernel
theorem dX10_from_41 : decode cX10_from 41 = .ok (.iload 4, 2) := by decide +kernel
theorem dX10_from_43 : decode cX10_from 43 = .ok (.aload_n 0, 1) := by decide +kernel
theorem dX10_from_44 : decode cX10_from 44 = .ok (.aload_n 0, 1) := by decide +kernel
theorem dX10_from_45 : decode cX10_from 45 = .ok (.getfield 9, 3) := by decide +kernel
theorem dX10_from_48 : decode cX10_from 48 = .ok (.bipush 18, 2) := by decide +kernel
theorem dX10_from_50 : decode cX10_from 50 = .ok (.iaload, 1) := by decide +kernel
theorem dX10_from_51 : decode cX10_from 51 = .ok (.iload_n 2, 1) := by decide +kernel
theorem dX10_from_52 : decode cX10_from 52 = .ok (.invokevirtual 214, 3) := by decide +kernel
theorem dX10_from_55 : decode cX10_from 55 = .ok (.invokevirtual 217, 3) := by decide +kernel
theorem dX10_from_58 : decode cX10_from 58 = .ok (.ifCond .eq 10, 3) := by decide +kernel
theorem dX10_from_61 : decode cX10_from 61 = .ok (.iconst 1, 1) := by decide +kernel
theorem dX10_from_62 : decode cX10_from 62 = .ok (.iload 4, 2) := by decide +kernel
theorem dX10_from_64 : decode cX10_from 64 = .ok (.ishl, 1) := by decide +kernel
theorem dX10_from_65 : decode cX10_from 65 = .ok (.goto 4, 3) := by decide +kernel
theorem dX10_from_68 : decode cX10_from 68 = .ok (.iconst 0, 1) := by decide +kernel
theorem dX10_from_69 : decode cX10_from 69 = .ok (.ior, 1) := by decide +kernel
theorem dX10_from_70 : decode cX10_from 70 = .ok (.istore_n 3, 1) := by decide +kernel
theorem dX10_from_71 : decode cX10_from 71 = .ok (.iinc 4 1, 3) := by decide +kernel
theorem dX10_from_74 : decode cX10_from 74 = .ok (.goto (-45), 3) := by decide +kernel
theorem dX10_from_77 : decode cX10_from 77 = .ok (.iload_n 3, 1) := by decide +kernel
theorem dX10_from_78 : decode cX10_from 78 = .ok (.ireturn, 1) := by decide +kernel
theorem dX10_worthOf_0 : decode cX10_worthOf 0 = .ok (.iload_n 2, 1) := by decide +kernel
theorem dX10_worthOf_1 : decode cX10_worthOf 1 = .ok (.iload_n 1, 1) := by decide +kernel
theorem dX10_worthOf_2 : decode cX10_worthOf 2 = .ok (.invokestatic 227, 3) := by decide +kernel
theorem dX10_worthOf_5 : decode cX10_worthOf 5 = .ok (.ifCond .eq 14, 3) := by decide +kernel
theorem dX10_worthOf_8 : decode cX10_worthOf 8 = .ok (.aload_n 0, 1) := by decide +kernel
theorem dX10_worthOf_9 : decode cX10_worthOf 9 = .ok (.getfield 19, 3) := by decide +kernel
theorem dX10_worthOf_12 : decode cX10_worthOf 12 = .ok (.iload_n 1, 1) := by decide +kernel
theorem dX10_worthOf_13 : decode cX10_worthOf 13 = .ok (.iaload, 1) := by decide +kernel
theorem dX10_worthOf_14 : decode cX10_worthOf 14 = .ok (.iconst 2, 1) := by decide +kernel
theorem dX10_worthOf_15 : decode cX10_worthOf 15 = .ok (.idiv, 1) := by decide +kernel
theorem dX10_worthOf_16 : decode cX10_worthOf 16 = .ok (.goto 9, 3) := by decide +kernel
theorem dX10_worthOf_19 : decode cX10_worthOf 19 = .ok (.aload_n 0, 1) := by decide +kernel
theorem dX10_worthOf_20 : decode cX10_worthOf 20 = .ok (.getfield 19, 3) := by decide +kernel
theorem dX10_worthOf_23 : decode cX10_worthOf 23 = .ok (.iload_n 1, 1) := by decide +kernel
theorem dX10_worthOf_24 : decode cX10_worthOf 24 = .ok (.iaload, 1) := by decide +kernel
theorem dX10_worthOf_25 : decode cX10_worthOf 25 = .ok (.ireturn, 1) := by decide +kernel
theorem dX10_worthOfAll_0 : decode cX10_worthOfAll 0 = .ok (.iconst 0, 1) := by decide +kernel
theorem dX10_worthOfAll_1 : decode cX10_worthOfAll 1 = .ok (.istore_n 3, 1) := by decide +kernel
theorem dX10_worthOfAll_2 : decode cX10_worthOfAll 2 = .ok (.iconst 0, 1) := by decide +kernel
theorem dX10_worthOfAll_3 : decode cX10_worthOfAll 3 = .ok (.istore 4, 2) := by decide +kernel
theorem dX10_worthOfAll_5 : decode cX10_worthOfAll 5 = .ok (.iload 4, 2) := by decide +kernel
theorem dX10_worthOfAll_7 : decode cX10_worthOfAll 7 = .ok (.aload_n 0, 1) := by decide +kernel
theorem dX10_worthOfAll_8 : decode cX10_worthOfAll 8 = .ok (.getfield 94, 3) := by decide +kernel
theorem dX10_worthOfAll_11 : decode cX10_worthOfAll 11 = .ok (.if_icmp .ge 32, 3) := by decide +kernel
theorem dX10_worthOfAll_14 : decode cX10_worthOfAll 14 = .ok (.iload_n 3, 1) := by decide +kernel
theorem dX10_worthOfAll_15 : decode cX10_worthOfAll 15 = .ok (.iload_n 1, 1) := by decide +kernel
theorem dX10_worthOfAll_16 : decode cX10_worthOfAll 16 = .ok (.iload 4, 2) := by decide +kernel
theorem dX10_worthOfAll_18 : decode cX10_worthOfAll 18 = .ok (.invokestatic 227, 3) := by decide +kernel
theorem dX10_worthOfAll_21 : decode cX10_worthOfAll 21 = .ok (.ifCond .eq 13, 3) := by decide +kernel
theorem dX10_worthOfAll_24 : decode cX10_worthOfAll 24 = .ok (.aload_n 0, 1) := by decide +kernel
theorem dX10_worthOfAll_25 : decode cX10_worthOfAll 25 = .ok (.iload 4, 2) := by decide +kernel
theorem dX10_worthOfAll_27 : decode cX10_worthOfAll 27 = .ok (.iload_n 2, 1) := by decide +kernel
theorem dX10_worthOfAll_28 : decode cX10_worthOfAll 28 = .ok (.invokevirtual 234, 3) := by decide +kernel
theorem dX10_worthOfAll_31 : decode cX10_worthOfAll 31 = .ok (.goto 4, 3) := by decide +kernel
theorem dX10_worthOfAll_34 : decode cX10_worthOfAll 34 = .ok (.iconst 0, 1) := by decide +kernel
theorem dX10_worthOfAll_35 : decode cX10_worthOfAll 35 = .ok (.iadd, 1) := by decide +kernel
theorem dX10_worthOfAll_36 : decode cX10_worthOfAll 36 = .ok (.istore_n 3, 1) := by decide +kernel
theorem dX10_worthOfAll_37 : decode cX10_worthOfAll 37 = .ok (.iinc 4 1, 3) := by decide +kernel
theorem dX10_worthOfAll_40 : decode cX10_worthOfAll 40 = .ok (.goto (-35), 3) := by decide +kernel
theorem dX10_worthOfAll_43 : decode cX10_worthOfAll 43 = .ok (.iload_n 3, 1) := by decide +kernel
theorem dX10_worthOfAll_44 : decode cX10_worthOfAll 44 = .ok (.ireturn, 1) := by decide +kernel
theorem dX10_never_0 : decode cX10_never 0 = .ok (.aload_n 0, 1) := by decide +kernel
theorem dX10_never_1 : decode cX10_never 1 = .ok (.iconst 0, 1) := by decide +kernel
theorem dX10_never_2 : decode cX10_never 2 = .ok (.putfield 87, 3) := by decide +kernel
theorem dX10_never_5 : decode cX10_never 5 = .ok (.aload_n 0, 1) := by decide +kernel
theorem dX10_never_6 : decode cX10_never 6 = .ok (.aload_n 0, 1) := by decide +kernel
theorem dX10_never_7 : decode cX10_never 7 = .ok (.getfield 9, 3) := by decide +kernel
theorem dX10_never_10 : decode cX10_never 10 = .ok (.iconst 0, 1) := by decide +kernel
theorem dX10_never_11 : decode cX10_never 11 = .ok (.invokevirtual 244, 3) := by decide +kernel
theorem dX10_never_14 : decode cX10_never 14 = .ok (.istore_n 1, 1) := by decide +kernel
theorem dX10_never_15 : decode cX10_never 15 = .ok (.iconst 0, 1) := by decide +kernel
theorem dX10_never_16 : decode cX10_never 16 = .ok (.istore_n 2, 1) := by decide +kernel
theorem dX10_never_17 : decode cX10_never 17 = .ok (.iload_n 2, 1) := by decide +kernel
theorem dX10_never_18 : decode cX10_never 18 = .ok (.aload_n 0, 1) := by decide +kernel
theorem dX10_never_19 : decode cX10_never 19 = .ok (.getfield 101, 3) := by decide +kernel
theorem dX10_never_22 : decode cX10_never 22 = .ok (.if_icmp .ge 21, 3) := by decide +kernel
theorem dX10_never_25 : decode cX10_never 25 = .ok (.iload_n 1, 1) := by decide +kernel
theorem dX10_never_26 : decode cX10_never 26 = .ok (.aload_n 0, 1) := by decide +kernel
theorem dX10_never_27 : decode cX10_never 27 = .ok (.iload_n 2, 1) := by decide +kernel
theorem dX10_never_28 : decode cX10_never 28 = .ok (.iconst 1, 1) := by decide +kernel
theorem dX10_never_29 : decode cX10_never 29 = .ok (.iconst 1, 1) := by decide +kernel
theorem dX10_never_30 : decode cX10_never 30 = .ok (.invokevirtual 220, 3) := by decide +kernel
theorem dX10_never_33 : decode cX10_never 33 = .ok (.iconst (-1), 1) := by decide +kernel
theorem dX10_never_34 : decode cX10_never 34 = .ok (.ixor, 1) := by decide +kernel
theorem dX10_never_35 : decode cX10_never 35 = .ok (.iand, 1) := by decide +kernel
theorem dX10_never_36 : decode cX10_never 36 = .ok (.istore_n 1, 1) := by decide +kernel
theorem dX10_never_37 : decode cX10_never 37 = .ok (.iinc 2 1, 3) := by decide +kernel
theorem dX10_never_40 : decode cX10_never 40 = .ok (.goto (-23), 3) := by decide +kernel
theorem dX10_never_43 : decode cX10_never 43 = .ok (.aload_n 0, 1) := by decide +kernel
theorem dX10_never_44 : decode cX10_never 44 = .ok (.iconst 0, 1) := by decide +kernel
theorem dX10_never_45 : decode cX10_never 45 = .ok (.putfield 91, 3) := by decide +kernel
theorem dX10_never_48 : decode cX10_never 48 = .ok (.aload_n 0, 1) := by decide +kernel
theorem dX10_never_49 : decode cX10_never 49 = .ok (.aload_n 0, 1) := by decide +kernel
theorem dX10_never_50 : decode cX10_never 50 = .ok (.iload_n 1, 1) := by decide +kernel
theorem dX10_never_51 : decode cX10_never 51 = .ok (.aload_n 0, 1) := by decide +kernel
theorem dX10_never_52 : decode cX10_never 52 = .ok (.getfield 9, 3) := by decide +kernel
theorem dX10_never_55 : decode cX10_never 55 = .ok (.bipush 16, 2) := by decide +kernel
theorem dX10_never_57 : decode cX10_never 57 = .ok (.iaload, 1) := by decide +kernel
theorem dX10_never_58 : decode cX10_never 58 = .ok (.invokevirtual 325, 3) := by decide +kernel
theorem dX10_never_61 : decode cX10_never 61 = .ok (.invokevirtual 322, 3) := by decide +kernel
theorem dX10_never_64 : decode cX10_never 64 = .ok (.iload_n 1, 1) := by decide +kernel
theorem dX10_never_65 : decode cX10_never 65 = .ok (.ireturn, 1) := by decide +kernel
theorem dX10_seconds_0 : decode cX10_seconds 0 = .ok (.aload_n 0, 1) := by decide +kernel
theorem dX10_seconds_1 : decode cX10_seconds 1 = .ok (.iconst 0, 1) := by decide +kernel
theorem dX10_seconds_2 : decode cX10_seconds 2 = .ok (.putfield 87, 3) := by decide +kernel
theorem dX10_seconds_5 : decode cX10_seconds 5 = .ok (.aload_n 0, 1) := by decide +kernel
theorem dX10_seconds_6 : decode cX10_seconds 6 = .ok (.iload_n 1, 1) := by decide +kernel
theorem dX10_seconds_7 : decode cX10_seconds 7 = .ok (.invokevirtual 237, 3) := by decide +kernel
theorem dX10_seconds_10 : decode cX10_seconds 10 = .ok (.ifCond .eq 20, 3) := by decide +kernel
theorem dX10_seconds_13 : decode cX10_seconds 13 = .ok (.aload_n 0, 1) := by decide +kernel
theorem dX10_seconds_14 : decode cX10_seconds 14 = .ok (.iload_n 2, 1) := by decide +kernel
theorem dX10_seconds_15 : decode cX10_seconds 15 = .ok (.invokevirtual 251, 3) := by decide +kernel
theorem dX10_seconds_18 : decode cX10_seconds 18 = .ok (.ifCond .eq 12, 3) := by decide +kernel
theorem dX10_seconds_21 : decode cX10_seconds 21 = .ok (.iload_n 3, 1) := by decide +kernel
theorem dX10_seconds_22 : decode cX10_seconds 22 = .ok (.iconst 0, 1) := by decide +kernel
theorem dX10_seconds_23 : decode cX10_seconds 23 = .ok (.iconst 1, 1) := by decide +kernel
theorem dX10_seconds_24 : decode cX10_seconds 24 = .ok (.invokestatic 97, 3) := by decide +kernel
theorem dX10_seconds_27 : decode cX10_seconds 27 = .ok (.ifCond .ne 5, 3) := by decide +kernel
theorem dX10_seconds_30 : decode cX10_seconds 30 = .ok (.iconst (-1), 1) := by decide +kernel
theorem dX10_seconds_31 : decode cX10_seconds 31 = .ok (.ireturn, 1) := by decide +kernel
theorem dX10_seconds_32 : decode cX10_seconds 32 = .ok (.aload_n 0, 1) := by decide +kernel
theorem dX10_seconds_33 : decode cX10_seconds 33 = .ok (.iload_n 1, 1) := by decide +kernel
theorem dX10_seconds_34 : decode cX10_seconds 34 = .ok (.iload_n 2, 1) := by decide +kernel
theorem dX10_seconds_35 : decode cX10_seconds 35 = .ok (.aload_n 0, 1) := by decide +kernel
theorem dX10_seconds_36 : decode cX10_seconds 36 = .ok (.aload_n 0, 1) := by decide +kernel
theorem dX10_seconds_37 : decode cX10_seconds 37 = .ok (.getfield 9, 3) := by decide +kernel
theorem dX10_seconds_40 : decode cX10_seconds 40 = .ok (.bipush 18, 2) := by decide +kernel
theorem dX10_seconds_42 : decode cX10_seconds 42 = .ok (.iaload, 1) := by decide +kernel
theorem dX10_seconds_43 : decode cX10_seconds 43 = .ok (.iload_n 3, 1) := by decide +kernel
theorem dX10_seconds_44 : decode cX10_seconds 44 = .ok (.invokevirtual 214, 3) := by decide +kernel
theorem dX10_seconds_47 : decode cX10_seconds 47 = .ok (.invokevirtual 217, 3) := by decide +kernel
theorem dX10_seconds_50 : decode cX10_seconds 50 = .ok (.ifCond .eq 14, 3) := by decide +kernel
theorem dX10_seconds_53 : decode cX10_seconds 53 = .ok (.aload_n 0, 1) := by decide +kernel
theorem dX10_seconds_54 : decode cX10_seconds 54 = .ok (.iload_n 1, 1) := by decide +kernel
theorem dX10_seconds_55 : decode cX10_seconds 55 = .ok (.iload_n 2, 1) := by decide +kernel
theorem dX10_seconds_56 : decode cX10_seconds 56 = .ok (.iload_n 3, 1) := by decide +kernel
theorem dX10_seconds_57 : decode cX10_seconds 57 = .ok (.iconst 0, 1) := by decide +kernel
theorem dX10_seconds_58 : decode cX10_seconds 58 = .ok (.invokevirtual 285, 3) := by decide +kernel
theorem dX10_seconds_61 : decode cX10_seconds 61 = .ok (.goto 5, 3) := by decide +kernel
theorem dX10_seconds_64 : decode cX10_seconds 64 = .ok (.bipush (-2), 2) := by decide +kernel
theorem dX10_seconds_66 : decode cX10_seconds 66 = .ok (.ireturn, 1) := by decide +kernel
theorem dX10_allStandings_0 : decode cX10_allStandings 0 = .ok (.iconst 1, 1) := by decide +kernel
theorem dX10_allStandings_1 : decode cX10_allStandings 1 = .ok (.aload_n 0, 1) := by decide +kernel
theorem dX10_allStandings_2 : decode cX10_allStandings 2 = .ok (.getfield 101, 3) := by decide +kernel
theorem dX10_allStandings_5 : decode cX10_allStandings 5 = .ok (.ishl, 1) := by decide +kernel
theorem dX10_allStandings_6 : decode cX10_allStandings 6 = .ok (.iconst 1, 1) := by decide +kernel
theorem dX10_allStandings_7 : decode cX10_allStandings 7 = .ok (.isub, 1) := by decide +kernel
theorem dX10_allStandings_8 : decode cX10_allStandings 8 = .ok (.ireturn, 1) := by decide +kernel
theorem dX10_handOf_0 : decode cX10_handOf 0 = .ok (.iconst 0, 1) := by decide +kernel
theorem dX10_handOf_1 : decode cX10_handOf 1 = .ok (.istore_n 2, 1) := by decide +kernel
theorem dX10_handOf_2 : decode cX10_handOf 2 = .ok (.iconst 0, 1) := by decide +kernel
theorem dX10_handOf_3 : decode cX10_handOf 3 = .ok (.istore_n 3, 1) := by decide +kernel
theorem dX10_handOf_4 : decode cX10_handOf 4 = .ok (.iload_n 3, 1) := by decide +kernel
theorem dX10_handOf_5 : decode cX10_handOf 5 = .ok (.aload_n 0, 1) := by decide +kernel
theorem dX10_handOf_6 : decode cX10_handOf 6 = .ok (.getfield 101, 3) := by decide +kernel
theorem dX10_handOf_9 : decode cX10_handOf 9 = .ok (.if_icmp .ge 30, 3) := by decide +kernel
theorem dX10_handOf_12 : decode cX10_handOf 12 = .ok (.iload_n 2, 1) := by decide +kernel
theorem dX10_handOf_13 : decode cX10_handOf 13 = .ok (.iload_n 1, 1) := by decide +kernel
theorem dX10_handOf_14 : decode cX10_handOf 14 = .ok (.iload_n 3, 1) := by decide +kernel
theorem dX10_handOf_15 : decode cX10_handOf 15 = .ok (.invokestatic 227, 3) := by decide +kernel
theorem dX10_handOf_18 : decode cX10_handOf 18 = .ok (.ifCond .eq 12, 3) := by decide +kernel
theorem dX10_handOf_21 : decode cX10_handOf 21 = .ok (.aload_n 0, 1) := by decide +kernel
theorem dX10_handOf_22 : decode cX10_handOf 22 = .ok (.getfield 59, 3) := by decide +kernel
theorem dX10_handOf_25 : decode cX10_handOf 25 = .ok (.iload_n 3, 1) := by decide +kernel
theorem dX10_handOf_26 : decode cX10_handOf 26 = .ok (.iaload, 1) := by decide +kernel
theorem dX10_handOf_27 : decode cX10_handOf 27 = .ok (.goto 4, 3) := by decide +kernel
theorem dX10_handOf_30 : decode cX10_handOf 30 = .ok (.iconst 0, 1) := by decide +kernel
theorem dX10_handOf_31 : decode cX10_handOf 31 = .ok (.ior, 1) := by decide +kernel
theorem dX10_handOf_32 : decode cX10_handOf 32 = .ok (.istore_n 2, 1) := by decide +kernel
theorem dX10_handOf_33 : decode cX10_handOf 33 = .ok (.iinc 3 1, 3) := by decide +kernel
theorem dX10_handOf_36 : decode cX10_handOf 36 = .ok (.goto (-32), 3) := by decide +kernel
theorem dX10_handOf_39 : decode cX10_handOf 39 = .ok (.iload_n 2, 1) := by decide +kernel
theorem dX10_handOf_40 : decode cX10_handOf 40 = .ok (.ireturn, 1) := by decide +kernel
theorem dX10_layHands__0 : decode cX10_layHands_ 0 = .ok (.iconst 0, 1) := by decide +kernel
theorem dX10_layHands__1 : decode cX10_layHands_ 1 = .ok (.istore_n 2, 1) := by decide +kernel
theorem dX10_layHands__2 : decode cX10_layHands_ 2 = .ok (.iload_n 2, 1) := by decide +kernel
theorem dX10_layHands__3 : decode cX10_layHands_ 3 = .ok (.aload_n 0, 1) := by decide +kernel
theorem dX10_layHands__4 : decode cX10_layHands_ 4 = .ok (.getfield 101, 3) := by decide +kernel
theorem dX10_layHands__7 : decode cX10_layHands_ 7 = .ok (.if_icmp .ge 22, 3) := by decide +kernel
theorem dX10_layHands__10 : decode cX10_layHands_ 10 = .ok (.aload_n 0, 1) := by decide +kernel
theorem dX10_layHands__11 : decode cX10_layHands_ 11 = .ok (.getfield 59, 3) := by decide +kernel
theorem dX10_layHands__14 : decode cX10_layHands_ 14 = .ok (.iload_n 2, 1) := by decide +kernel
theorem dX10_layHands__15 : decode cX10_layHands_ 15 = .ok (.aload_n 0, 1) := by decide +kernel
theorem dX10_layHands__16 : decode cX10_layHands_ 16 = .ok (.iload_n 2, 1) := by decide +kernel
theorem dX10_layHands__17 : decode cX10_layHands_ 17 = .ok (.iload_n 1, 1) := by decide +kernel
theorem dX10_layHands__18 : decode cX10_layHands_ 18 = .ok (.iconst 0, 1) := by decide +kernel
theorem dX10_layHands__19 : decode cX10_layHands_ 19 = .ok (.invokevirtual 220, 3) := by decide +kernel
theorem dX10_layHands__22 : decode cX10_layHands_ 22 = .ok (.iastore, 1) := by decide +kernel
theorem dX10_layHands__23 : decode cX10_layHands_ 23 = .ok (.iinc 2 1, 3) := by decide +kernel
theorem dX10_layHands__26 : decode cX10_layHands_ 26 = .ok (.goto (-24), 3) := by decide +kernel
theorem dX10_layHands__29 : decode cX10_layHands_ 29 = .ok (.aload_n 0, 1) := by decide +kernel
theorem dX10_layHands__30 : decode cX10_layHands_ 30 = .ok (.aload_n 0, 1) := by decide +kernel
theorem dX10_layHands__31 : decode cX10_layHands_ 31 = .ok (.aload_n 0, 1) := by decide +kernel
theorem dX10_layHands__32 : decode cX10_layHands_ 32 = .ok (.getfield 9, 3) := by decide +kernel
theorem dX10_layHands__35 : decode cX10_layHands_ 35 = .ok (.iconst 0, 1) := by decide +kernel
theorem dX10_layHands__36 : decode cX10_layHands_ 36 = .ok (.invokevirtual 244, 3) := by decide +kernel
theorem dX10_layHands__39 : decode cX10_layHands_ 39 = .ok (.aload_n 0, 1) := by decide +kernel
theorem dX10_layHands__40 : decode cX10_layHands_ 40 = .ok (.aload_n 0, 1) := by decide +kernel
theorem dX10_layHands__41 : decode cX10_layHands_ 41 = .ok (.getfield 9, 3) := by decide +kernel
theorem dX10_layHands__44 : decode cX10_layHands_ 44 = .ok (.bipush 19, 2) := by decide +kernel
theorem dX10_layHands__46 : decode cX10_layHands_ 46 = .ok (.iaload, 1) := by decide +kernel
theorem dX10_layHands__47 : decode cX10_layHands_ 47 = .ok (.invokevirtual 301, 3) := by decide +kernel
theorem dX10_layHands__50 : decode cX10_layHands_ 50 = .ok (.iand, 1) := by decide +kernel
theorem dX10_layHands__51 : decode cX10_layHands_ 51 = .ok (.aload_n 0, 1) := by decide +kernel
theorem dX10_layHands__52 : decode cX10_layHands_ 52 = .ok (.aload_n 0, 1) := by decide +kernel
theorem dX10_layHands__53 : decode cX10_layHands_ 53 = .ok (.invokevirtual 331, 3) := by decide +kernel
theorem dX10_layHands__56 : decode cX10_layHands_ 56 = .ok (.invokevirtual 334, 3) := by decide +kernel
theorem dX10_layHands__59 : decode cX10_layHands_ 59 = .ok (.iand, 1) := by decide +kernel
theorem dX10_layHands__60 : decode cX10_layHands_ 60 = .ok (.putfield 337, 3) := by decide +kernel
theorem dX10_layHands__63 : decode cX10_layHands_ 63 = .ok (.return_, 1) := by decide +kernel
theorem dX10_layHands_0 : decode cX10_layHands 0 = .ok (.aload_n 0, 1) := by decide +kernel
theorem dX10_layHands_1 : decode cX10_layHands 1 = .ok (.aload_n 0, 1) := by decide +kernel
theorem dX10_layHands_2 : decode cX10_layHands 2 = .ok (.getfield 9, 3) := by decide +kernel
theorem dX10_layHands_5 : decode cX10_layHands 5 = .ok (.bipush 18, 2) := by decide +kernel
theorem dX10_layHands_7 : decode cX10_layHands 7 = .ok (.iaload, 1) := by decide +kernel
theorem dX10_layHands_8 : decode cX10_layHands 8 = .ok (.invokevirtual 328, 3) := by decide +kernel
theorem dX10_layHands_11 : decode cX10_layHands 11 = .ok (.return_, 1) := by decide +kernel
theorem dX10_both_0 : decode cX10_both 0 = .ok (.aload_n 0, 1) := by decide +kernel
theorem dX10_both_1 : decode cX10_both 1 = .ok (.iconst 0, 1) := by decide +kernel
theorem dX10_both_2 : decode cX10_both 2 = .ok (.putfield 87, 3) := by decide +kernel
theorem dX10_both_5 : decode cX10_both 5 = .ok (.aload_n 0, 1) := by decide +kernel
theorem dX10_both_6 : decode cX10_both 6 = .ok (.iload_n 1, 1) := by decide +kernel
theorem dX10_both_7 : decode cX10_both 7 = .ok (.invokevirtual 251, 3) := by decide +kernel
theorem dX10_both_10 : decode cX10_both 10 = .ok (.ifCond .eq 16, 3) := by decide +kernel
theorem dX10_both_13 : decode cX10_both 13 = .ok (.aload_n 0, 1) := by decide +kernel
theorem dX10_both_14 : decode cX10_both 14 = .ok (.iload_n 2, 1) := by decide +kernel
theorem dX10_both_15 : decode cX10_both 15 = .ok (.invokevirtual 251, 3) := by decide +kernel
theorem dX10_both_18 : decode cX10_both 18 = .ok (.ifCond .eq 8, 3) := by decide +kernel
theorem dX10_both_21 : decode cX10_both 21 = .ok (.iload_n 1, 1) := by decide +kernel
theorem dX10_both_22 : decode cX10_both 22 = .ok (.iload_n 2, 1) := by decide +kernel
theorem dX10_both_23 : decode cX10_both 23 = .ok (.if_icmp .ne 5, 3) := by decide +kernel
theorem dX10_both_26 : decode cX10_both 26 = .ok (.iconst (-1), 1) := by decide +kernel
theorem dX10_both_27 : decode cX10_both 27 = .ok (.ireturn, 1) := by decide +kernel
theorem dX10_both_28 : decode cX10_both 28 = .ok (.aload_n 0, 1) := by decide +kernel
theorem dX10_both_29 : decode cX10_both 29 = .ok (.invokevirtual 349, 3) := by decide +kernel
theorem dX10_both_32 : decode cX10_both 32 = .ok (.aload_n 0, 1) := by decide +kernel
theorem dX10_both_33 : decode cX10_both 33 = .ok (.iconst 0, 1) := by decide +kernel
theorem dX10_both_34 : decode cX10_both 34 = .ok (.putfield 91, 3) := by decide +kernel
theorem dX10_both_37 : decode cX10_both 37 = .ok (.aload_n 0, 1) := by decide +kernel
theorem dX10_both_38 : decode cX10_both 38 = .ok (.aload_n 0, 1) := by decide +kernel
theorem dX10_both_39 : decode cX10_both 39 = .ok (.getfield 337, 3) := by decide +kernel
theorem dX10_both_42 : decode cX10_both 42 = .ok (.aload_n 0, 1) := by decide +kernel
theorem dX10_both_43 : decode cX10_both 43 = .ok (.getfield 59, 3) := by decide +kernel
theorem dX10_both_46 : decode cX10_both 46 = .ok (.iload_n 1, 1) := by decide +kernel
theorem dX10_both_47 : decode cX10_both 47 = .ok (.iaload, 1) := by decide +kernel
theorem dX10_both_48 : decode cX10_both 48 = .ok (.iand, 1) := by decide +kernel
theorem dX10_both_49 : decode cX10_both 49 = .ok (.aload_n 0, 1) := by decide +kernel
theorem dX10_both_50 : decode cX10_both 50 = .ok (.getfield 59, 3) := by decide +kernel
theorem dX10_both_53 : decode cX10_both 53 = .ok (.iload_n 2, 1) := by decide +kernel
theorem dX10_both_54 : decode cX10_both 54 = .ok (.iaload, 1) := by decide +kernel
theorem dX10_both_55 : decode cX10_both 55 = .ok (.iconst (-1), 1) := by decide +kernel
theorem dX10_both_56 : decode cX10_both 56 = .ok (.ixor, 1) := by decide +kernel
theorem dX10_both_57 : decode cX10_both 57 = .ok (.iand, 1) := by decide +kernel
theorem dX10_both_58 : decode cX10_both 58 = .ok (.invokevirtual 322, 3) := by decide +kernel
theorem dX10_both_61 : decode cX10_both 61 = .ok (.aload_n 0, 1) := by decide +kernel
theorem dX10_both_62 : decode cX10_both 62 = .ok (.aload_n 0, 1) := by decide +kernel
theorem dX10_both_63 : decode cX10_both 63 = .ok (.getfield 337, 3) := by decide +kernel
theorem dX10_both_66 : decode cX10_both 66 = .ok (.aload_n 0, 1) := by decide +kernel
theorem dX10_both_67 : decode cX10_both 67 = .ok (.getfield 59, 3) := by decide +kernel
theorem dX10_both_70 : decode cX10_both 70 = .ok (.iload_n 2, 1) := by decide +kernel
theorem dX10_both_71 : decode cX10_both 71 = .ok (.iaload, 1) := by decide +kernel
theorem dX10_both_72 : decode cX10_both 72 = .ok (.iand, 1) := by decide +kernel
theorem dX10_both_73 : decode cX10_both 73 = .ok (.aload_n 0, 1) := by decide +kernel
theorem dX10_both_74 : decode cX10_both 74 = .ok (.getfield 59, 3) := by decide +kernel
theorem dX10_both_77 : decode cX10_both 77 = .ok (.iload_n 1, 1) := by decide +kernel
theorem dX10_both_78 : decode cX10_both 78 = .ok (.iaload, 1) := by decide +kernel
theorem dX10_both_79 : decode cX10_both 79 = .ok (.iconst (-1), 1) := by decide +kernel
theorem dX10_both_80 : decode cX10_both 80 = .ok (.ixor, 1) := by decide +kernel
theorem dX10_both_81 : decode cX10_both 81 = .ok (.iand, 1) := by decide +kernel
theorem dX10_both_82 : decode cX10_both 82 = .ok (.invokevirtual 322, 3) := by decide +kernel
theorem dX10_both_85 : decode cX10_both 85 = .ok (.aload_n 0, 1) := by decide +kernel
theorem dX10_both_86 : decode cX10_both 86 = .ok (.getfield 337, 3) := by decide +kernel
theorem dX10_both_89 : decode cX10_both 89 = .ok (.aload_n 0, 1) := by decide +kernel
theorem dX10_both_90 : decode cX10_both 90 = .ok (.getfield 59, 3) := by decide +kernel
theorem dX10_both_93 : decode cX10_both 93 = .ok (.iload_n 1, 1) := by decide +kernel
theorem dX10_both_94 : decode cX10_both 94 = .ok (.iaload, 1) := by decide +kernel
theorem dX10_both_95 : decode cX10_both 95 = .ok (.iand, 1) := by decide +kernel
theorem dX10_both_96 : decode cX10_both 96 = .ok (.aload_n 0, 1) := by decide +kernel
theorem dX10_both_97 : decode cX10_both 97 = .ok (.getfield 59, 3) := by decide +kernel
theorem dX10_both_100 : decode cX10_both 100 = .ok (.iload_n 2, 1) := by decide +kernel
theorem dX10_both_101 : decode cX10_both 101 = .ok (.iaload, 1) := by decide +kernel
theorem dX10_both_102 : decode cX10_both 102 = .ok (.iand, 1) := by decide +kernel
theorem dX10_both_103 : decode cX10_both 103 = .ok (.ireturn, 1) := by decide +kernel
theorem dX10_leanOf_0 : decode cX10_leanOf 0 = .ok (.iconst 0, 1) := by decide +kernel
theorem dX10_leanOf_1 : decode cX10_leanOf 1 = .ok (.istore_n 3, 1) := by decide +kernel
theorem dX10_leanOf_2 : decode cX10_leanOf 2 = .ok (.iload_n 3, 1) := by decide +kernel
theorem dX10_leanOf_3 : decode cX10_leanOf 3 = .ok (.bipush 30, 2) := by decide +kernel
theorem dX10_leanOf_5 : decode cX10_leanOf 5 = .ok (.if_icmp .gt 26, 3) := by decide +kernel
theorem dX10_leanOf_8 : decode cX10_leanOf 8 = .ok (.aload_n 0, 1) := by decide +kernel
theorem dX10_leanOf_9 : decode cX10_leanOf 9 = .ok (.iload_n 1, 1) := by decide +kernel
theorem dX10_leanOf_10 : decode cX10_leanOf 10 = .ok (.iload_n 2, 1) := by decide +kernel
theorem dX10_leanOf_11 : decode cX10_leanOf 11 = .ok (.aload_n 0, 1) := by decide +kernel
theorem dX10_leanOf_12 : decode cX10_leanOf 12 = .ok (.getfield 31, 3) := by decide +kernel
theorem dX10_leanOf_15 : decode cX10_leanOf 15 = .ok (.iconst 0, 1) := by decide +kernel
theorem dX10_leanOf_16 : decode cX10_leanOf 16 = .ok (.iaload, 1) := by decide +kernel
theorem dX10_leanOf_17 : decode cX10_leanOf 17 = .ok (.iload_n 3, 1) := by decide +kernel
theorem dX10_leanOf_18 : decode cX10_leanOf 18 = .ok (.iadd, 1) := by decide +kernel
theorem dX10_leanOf_19 : decode cX10_leanOf 19 = .ok (.invokevirtual 217, 3) := by decide +kernel
theorem dX10_leanOf_22 : decode cX10_leanOf 22 = .ok (.ifCond .ne 9, 3) := by decide +kernel
theorem dX10_leanOf_25 : decode cX10_leanOf 25 = .ok (.iinc 3 1, 3) := by decide +kernel
theorem dX10_leanOf_28 : decode cX10_leanOf 28 = .ok (.goto (-26), 3) := by decide +kernel
theorem dX10_leanOf_31 : decode cX10_leanOf 31 = .ok (.iload_n 3, 1) := by decide +kernel
theorem dX10_leanOf_32 : decode cX10_leanOf 32 = .ok (.ireturn, 1) := by decide +kernel
theorem dX10_nearest_0 : decode cX10_nearest 0 = .ok (.aload_n 0, 1) := by decide +kernel
theorem dX10_nearest_1 : decode cX10_nearest 1 = .ok (.iconst 0, 1) := by decide +kernel
theorem dX10_nearest_2 : decode cX10_nearest 2 = .ok (.putfield 87, 3) := by decide +kernel
theorem dX10_nearest_5 : decode cX10_nearest 5 = .ok (.aload_n 0, 1) := by decide +kernel
theorem dX10_nearest_6 : decode cX10_nearest 6 = .ok (.iload_n 1, 1) := by decide +kernel
theorem dX10_nearest_7 : decode cX10_nearest 7 = .ok (.invokevirtual 237, 3) := by decide +kernel
theorem dX10_nearest_10 : decode cX10_nearest 10 = .ok (.ifCond .ne 5, 3) := by decide +kernel
theorem dX10_nearest_13 : decode cX10_nearest 13 = .ok (.iconst (-1), 1) := by decide +kernel
theorem dX10_nearest_14 : decode cX10_nearest 14 = .ok (.ireturn, 1) := by decide +kernel
theorem dX10_nearest_15 : decode cX10_nearest 15 = .ok (.bipush (-2), 2) := by decide +kernel
theorem dX10_nearest_17 : decode cX10_nearest 17 = .ok (.istore_n 2, 1) := by decide +kernel
theorem dX10_nearest_18 : decode cX10_nearest 18 = .ok (.iconst 0, 1) := by decide +kernel
theorem dX10_nearest_19 : decode cX10_nearest 19 = .ok (.istore_n 3, 1) := by decide +kernel
theorem dX10_nearest_20 : decode cX10_nearest 20 = .ok (.iload_n 3, 1) := by decide +kernel
theorem dX10_nearest_21 : decode cX10_nearest 21 = .ok (.aload_n 0, 1) := by decide +kernel
theorem dX10_nearest_22 : decode cX10_nearest 22 = .ok (.getfield 101, 3) := by decide +kernel
theorem dX10_nearest_25 : decode cX10_nearest 25 = .ok (.if_icmp .ge 41, 3) := by decide +kernel
theorem dX10_nearest_28 : decode cX10_nearest 28 = .ok (.aload_n 0, 1) := by decide +kernel
theorem dX10_nearest_29 : decode cX10_nearest 29 = .ok (.iload_n 1, 1) := by decide +kernel
theorem dX10_nearest_30 : decode cX10_nearest 30 = .ok (.iload_n 3, 1) := by decide +kernel
theorem dX10_nearest_31 : decode cX10_nearest 31 = .ok (.invokevirtual 351, 3) := by decide +kernel
theorem dX10_nearest_34 : decode cX10_nearest 34 = .ok (.bipush 30, 2) := by decide +kernel
theorem dX10_nearest_36 : decode cX10_nearest 36 = .ok (.if_icmp .gt 24, 3) := by decide +kernel
theorem dX10_nearest_39 : decode cX10_nearest 39 = .ok (.iload_n 2, 1) := by decide +kernel
theorem dX10_nearest_40 : decode cX10_nearest 40 = .ok (.ifCond .lt 18, 3) := by decide +kernel
theorem dX10_nearest_43 : decode cX10_nearest 43 = .ok (.aload_n 0, 1) := by decide +kernel
theorem dX10_nearest_44 : decode cX10_nearest 44 = .ok (.iload_n 1, 1) := by decide +kernel
theorem dX10_nearest_45 : decode cX10_nearest 45 = .ok (.iload_n 3, 1) := by decide +kernel
theorem dX10_nearest_46 : decode cX10_nearest 46 = .ok (.invokevirtual 351, 3) := by decide +kernel
theorem dX10_nearest_49 : decode cX10_nearest 49 = .ok (.aload_n 0, 1) := by decide +kernel
theorem dX10_nearest_50 : decode cX10_nearest 50 = .ok (.iload_n 1, 1) := by decide +kernel
theorem dX10_nearest_51 : decode cX10_nearest 51 = .ok (.iload_n 2, 1) := by decide +kernel
theorem dX10_nearest_52 : decode cX10_nearest 52 = .ok (.invokevirtual 351, 3) := by decide +kernel
theorem dX10_nearest_55 : decode cX10_nearest 55 = .ok (.if_icmp .ge 5, 3) := by decide +kernel
theorem dX10_nearest_58 : decode cX10_nearest 58 = .ok (.iload_n 3, 1) := by decide +kernel
theorem dX10_nearest_59 : decode cX10_nearest 59 = .ok (.istore_n 2, 1) := by decide +kernel
theorem dX10_nearest_60 : decode cX10_nearest 60 = .ok (.iinc 3 1, 3) := by decide +kernel
theorem dX10_nearest_63 : decode cX10_nearest 63 = .ok (.goto (-43), 3) := by decide +kernel
theorem dX10_nearest_66 : decode cX10_nearest 66 = .ok (.iload_n 2, 1) := by decide +kernel
theorem dX10_nearest_67 : decode cX10_nearest 67 = .ok (.ifCond .ge 6, 3) := by decide +kernel
theorem dX10_nearest_70 : decode cX10_nearest 70 = .ok (.bipush (-2), 2) := by decide +kernel
theorem dX10_nearest_72 : decode cX10_nearest 72 = .ok (.ireturn, 1) := by decide +kernel
theorem dX10_nearest_73 : decode cX10_nearest 73 = .ok (.aload_n 0, 1) := by decide +kernel
theorem dX10_nearest_74 : decode cX10_nearest 74 = .ok (.iconst 0, 1) := by decide +kernel
theorem dX10_nearest_75 : decode cX10_nearest 75 = .ok (.putfield 91, 3) := by decide +kernel
theorem dX10_nearest_78 : decode cX10_nearest 78 = .ok (.aload_n 0, 1) := by decide +kernel
theorem dX10_nearest_79 : decode cX10_nearest 79 = .ok (.aload_n 0, 1) := by decide +kernel
theorem dX10_nearest_80 : decode cX10_nearest 80 = .ok (.iload_n 1, 1) := by decide +kernel
theorem dX10_nearest_81 : decode cX10_nearest 81 = .ok (.iload_n 2, 1) := by decide +kernel
theorem dX10_nearest_82 : decode cX10_nearest 82 = .ok (.invokevirtual 351, 3) := by decide +kernel
theorem dX10_nearest_85 : decode cX10_nearest 85 = .ok (.invokevirtual 322, 3) := by decide +kernel
theorem dX10_nearest_88 : decode cX10_nearest 88 = .ok (.iload_n 2, 1) := by decide +kernel
theorem dX10_nearest_89 : decode cX10_nearest 89 = .ok (.ireturn, 1) := by decide +kernel
theorem dJ6_numberOfTrailingZeros_0f7a4_0 : decode cJ6_numberOfTrailingZeros_0f7a4 0 = .ok (.iload_n 0, 1) := by decide +kernel
theorem dJ6_numberOfTrailingZeros_0f7a4_1 : decode cJ6_numberOfTrailingZeros_0f7a4 1 = .ok (.iconst (-1), 1) := by decide +kernel
theorem dJ6_numberOfTrailingZeros_0f7a4_2 : decode cJ6_numberOfTrailingZeros_0f7a4 2 = .ok (.ixor, 1) := by decide +kernel
theorem dJ6_numberOfTrailingZeros_0f7a4_3 : decode cJ6_numberOfTrailingZeros_0f7a4 3 = .ok (.iload_n 0, 1) := by decide +kernel
theorem dJ6_numberOfTrailingZeros_0f7a4_4 : decode cJ6_numberOfTrailingZeros_0f7a4 4 = .ok (.iconst 1, 1) := by decide +kernel
theorem dJ6_numberOfTrailingZeros_0f7a4_5 : decode cJ6_numberOfTrailingZeros_0f7a4 5 = .ok (.isub, 1) := by decide +kernel
theorem dJ6_numberOfTrailingZeros_0f7a4_6 : decode cJ6_numberOfTrailingZeros_0f7a4 6 = .ok (.iand, 1) := by decide +kernel
theorem dJ6_numberOfTrailingZeros_0f7a4_7 : decode cJ6_numberOfTrailingZeros_0f7a4 7 = .ok (.istore_n 0, 1) := by decide +kernel
theorem dJ6_numberOfTrailingZeros_0f7a4_8 : decode cJ6_numberOfTrailingZeros_0f7a4 8 = .ok (.iload_n 0, 1) := by decide +kernel
theorem dJ6_numberOfTrailingZeros_0f7a4_9 : decode cJ6_numberOfTrailingZeros_0f7a4 9 = .ok (.ifCond .gt 8, 3) := by decide +kernel
theorem dJ6_numberOfTrailingZeros_0f7a4_12 : decode cJ6_numberOfTrailingZeros_0f7a4 12 = .ok (.iload_n 0, 1) := by decide +kernel
theorem dJ6_numberOfTrailingZeros_0f7a4_13 : decode cJ6_numberOfTrailingZeros_0f7a4 13 = .ok (.bipush 32, 2) := by decide +kernel
theorem dJ6_numberOfTrailingZeros_0f7a4_15 : decode cJ6_numberOfTrailingZeros_0f7a4 15 = .ok (.iand, 1) := by decide +kernel
theorem dJ6_numberOfTrailingZeros_0f7a4_16 : decode cJ6_numberOfTrailingZeros_0f7a4 16 = .ok (.ireturn, 1) := by decide +kernel
theorem dJ6_numberOfTrailingZeros_0f7a4_17 : decode cJ6_numberOfTrailingZeros_0f7a4 17 = .ok (.iconst 1, 1) := by decide +kernel
theorem dJ6_numberOfTrailingZeros_0f7a4_18 : decode cJ6_numberOfTrailingZeros_0f7a4 18 = .ok (.istore_n 1, 1) := by decide +kernel
theorem dJ6_numberOfTrailingZeros_0f7a4_19 : decode cJ6_numberOfTrailingZeros_0f7a4 19 = .ok (.iload_n 0, 1) := by decide +kernel
theorem dJ6_numberOfTrailingZeros_0f7a4_20 : decode cJ6_numberOfTrailingZeros_0f7a4 20 = .ok (.ldc_w 264, 3) := by decide +kernel
theorem dJ6_numberOfTrailingZeros_0f7a4_23 : decode cJ6_numberOfTrailingZeros_0f7a4 23 = .ok (.if_icmp .le 11, 3) := by decide +kernel
theorem dJ6_numberOfTrailingZeros_0f7a4_26 : decode cJ6_numberOfTrailingZeros_0f7a4 26 = .ok (.iinc 1 16, 3) := by decide +kernel
theorem dJ6_numberOfTrailingZeros_0f7a4_29 : decode cJ6_numberOfTrailingZeros_0f7a4 29 = .ok (.iload_n 0, 1) := by decide +kernel
theorem dJ6_numberOfTrailingZeros_0f7a4_30 : decode cJ6_numberOfTrailingZeros_0f7a4 30 = .ok (.bipush 16, 2) := by decide +kernel
theorem dJ6_numberOfTrailingZeros_0f7a4_32 : decode cJ6_numberOfTrailingZeros_0f7a4 32 = .ok (.iushr, 1) := by decide +kernel
theorem dJ6_numberOfTrailingZeros_0f7a4_33 : decode cJ6_numberOfTrailingZeros_0f7a4 33 = .ok (.istore_n 0, 1) := by decide +kernel
theorem dJ6_numberOfTrailingZeros_0f7a4_34 : decode cJ6_numberOfTrailingZeros_0f7a4 34 = .ok (.iload_n 0, 1) := by decide +kernel
theorem dJ6_numberOfTrailingZeros_0f7a4_35 : decode cJ6_numberOfTrailingZeros_0f7a4 35 = .ok (.sipush 256, 3) := by decide +kernel
theorem dJ6_numberOfTrailingZeros_0f7a4_38 : decode cJ6_numberOfTrailingZeros_0f7a4 38 = .ok (.if_icmp .le 11, 3) := by decide +kernel
theorem dJ6_numberOfTrailingZeros_0f7a4_41 : decode cJ6_numberOfTrailingZeros_0f7a4 41 = .ok (.iinc 1 8, 3) := by decide +kernel
theorem dJ6_numberOfTrailingZeros_0f7a4_44 : decode cJ6_numberOfTrailingZeros_0f7a4 44 = .ok (.iload_n 0, 1) := by decide +kernel
theorem dJ6_numberOfTrailingZeros_0f7a4_45 : decode cJ6_numberOfTrailingZeros_0f7a4 45 = .ok (.bipush 8, 2) := by decide +kernel
theorem dJ6_numberOfTrailingZeros_0f7a4_47 : decode cJ6_numberOfTrailingZeros_0f7a4 47 = .ok (.iushr, 1) := by decide +kernel
theorem dJ6_numberOfTrailingZeros_0f7a4_48 : decode cJ6_numberOfTrailingZeros_0f7a4 48 = .ok (.istore_n 0, 1) := by decide +kernel
theorem dJ6_numberOfTrailingZeros_0f7a4_49 : decode cJ6_numberOfTrailingZeros_0f7a4 49 = .ok (.iload_n 0, 1) := by decide +kernel
theorem dJ6_numberOfTrailingZeros_0f7a4_50 : decode cJ6_numberOfTrailingZeros_0f7a4 50 = .ok (.bipush 16, 2) := by decide +kernel
theorem dJ6_numberOfTrailingZeros_0f7a4_52 : decode cJ6_numberOfTrailingZeros_0f7a4 52 = .ok (.if_icmp .le 10, 3) := by decide +kernel
theorem dJ6_numberOfTrailingZeros_0f7a4_55 : decode cJ6_numberOfTrailingZeros_0f7a4 55 = .ok (.iinc 1 4, 3) := by decide +kernel
theorem dJ6_numberOfTrailingZeros_0f7a4_58 : decode cJ6_numberOfTrailingZeros_0f7a4 58 = .ok (.iload_n 0, 1) := by decide +kernel
theorem dJ6_numberOfTrailingZeros_0f7a4_59 : decode cJ6_numberOfTrailingZeros_0f7a4 59 = .ok (.iconst 4, 1) := by decide +kernel
theorem dJ6_numberOfTrailingZeros_0f7a4_60 : decode cJ6_numberOfTrailingZeros_0f7a4 60 = .ok (.iushr, 1) := by decide +kernel
theorem dJ6_numberOfTrailingZeros_0f7a4_61 : decode cJ6_numberOfTrailingZeros_0f7a4 61 = .ok (.istore_n 0, 1) := by decide +kernel
theorem dJ6_numberOfTrailingZeros_0f7a4_62 : decode cJ6_numberOfTrailingZeros_0f7a4 62 = .ok (.iload_n 0, 1) := by decide +kernel
theorem dJ6_numberOfTrailingZeros_0f7a4_63 : decode cJ6_numberOfTrailingZeros_0f7a4 63 = .ok (.iconst 4, 1) := by decide +kernel
theorem dJ6_numberOfTrailingZeros_0f7a4_64 : decode cJ6_numberOfTrailingZeros_0f7a4 64 = .ok (.if_icmp .le 10, 3) := by decide +kernel
theorem dJ6_numberOfTrailingZeros_0f7a4_67 : decode cJ6_numberOfTrailingZeros_0f7a4 67 = .ok (.iinc 1 2, 3) := by decide +kernel
theorem dJ6_numberOfTrailingZeros_0f7a4_70 : decode cJ6_numberOfTrailingZeros_0f7a4 70 = .ok (.iload_n 0, 1) := by decide +kernel
theorem dJ6_numberOfTrailingZeros_0f7a4_71 : decode cJ6_numberOfTrailingZeros_0f7a4 71 = .ok (.iconst 2, 1) := by decide +kernel
theorem dJ6_numberOfTrailingZeros_0f7a4_72 : decode cJ6_numberOfTrailingZeros_0f7a4 72 = .ok (.iushr, 1) := by decide +kernel
theorem dJ6_numberOfTrailingZeros_0f7a4_73 : decode cJ6_numberOfTrailingZeros_0f7a4 73 = .ok (.istore_n 0, 1) := by decide +kernel
theorem dJ6_numberOfTrailingZeros_0f7a4_74 : decode cJ6_numberOfTrailingZeros_0f7a4 74 = .ok (.iload_n 1, 1) := by decide +kernel
theorem dJ6_numberOfTrailingZeros_0f7a4_75 : decode cJ6_numberOfTrailingZeros_0f7a4 75 = .ok (.iload_n 0, 1) := by decide +kernel
