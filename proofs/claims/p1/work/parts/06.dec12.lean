theorem dX10_route_35 : decode cX10_route 35 = .ok (.iaload, 1) := by decide +kernel
theorem dX10_route_36 : decode cX10_route 36 = .ok (.istore_n 3, 1) := by decide +kernel
theorem dX10_route_37 : decode cX10_route 37 = .ok (.aload_n 0, 1) := by decide +kernel
theorem dX10_route_38 : decode cX10_route 38 = .ok (.aload_n 0, 1) := by decide +kernel
theorem dX10_route_39 : decode cX10_route 39 = .ok (.iload_n 3, 1) := by decide +kernel
theorem dX10_route_40 : decode cX10_route 40 = .ok (.invokevirtual 370, 3) := by decide +kernel
theorem dX10_route_43 : decode cX10_route 43 = .ok (.iload_n 2, 1) := by decide +kernel
theorem dX10_route_44 : decode cX10_route 44 = .ok (.invokevirtual 361, 3) := by decide +kernel
theorem dX10_route_47 : decode cX10_route 47 = .ok (.istore 4, 2) := by decide +kernel
theorem dX10_route_49 : decode cX10_route 49 = .ok (.aload_n 0, 1) := by decide +kernel
theorem dX10_route_50 : decode cX10_route 50 = .ok (.iconst 0, 1) := by decide +kernel
theorem dX10_route_51 : decode cX10_route 51 = .ok (.putfield 91, 3) := by decide +kernel
theorem dX10_route_54 : decode cX10_route 54 = .ok (.iload_n 2, 1) := by decide +kernel
theorem dX10_route_55 : decode cX10_route 55 = .ok (.ifCond .eq 77, 3) := by decide +kernel
theorem dX10_route_58 : decode cX10_route 58 = .ok (.iconst 0, 1) := by decide +kernel
theorem dX10_route_59 : decode cX10_route 59 = .ok (.istore 5, 2) := by decide +kernel
theorem dX10_route_61 : decode cX10_route 61 = .ok (.iload_n 2, 1) := by decide +kernel
theorem dX10_route_62 : decode cX10_route 62 = .ok (.iload 5, 2) := by decide +kernel
theorem dX10_route_64 : decode cX10_route 64 = .ok (.invokestatic 227, 3) := by decide +kernel
theorem dX10_route_67 : decode cX10_route 67 = .ok (.ifCond .eq 38, 3) := by decide +kernel
theorem dX10_route_70 : decode cX10_route 70 = .ok (.aload_n 0, 1) := by decide +kernel
theorem dX10_route_71 : decode cX10_route 71 = .ok (.iload_n 3, 1) := by decide +kernel
theorem dX10_route_72 : decode cX10_route 72 = .ok (.iload 5, 2) := by decide +kernel
theorem dX10_route_74 : decode cX10_route 74 = .ok (.invokevirtual 261, 3) := by decide +kernel
theorem dX10_route_77 : decode cX10_route 77 = .ok (.aload_n 0, 1) := by decide +kernel
theorem dX10_route_78 : decode cX10_route 78 = .ok (.iload 5, 2) := by decide +kernel
theorem dX10_route_80 : decode cX10_route 80 = .ok (.iload_n 2, 1) := by decide +kernel
theorem dX10_route_81 : decode cX10_route 81 = .ok (.iconst 1, 1) := by decide +kernel
theorem dX10_route_82 : decode cX10_route 82 = .ok (.iload 5, 2) := by decide +kernel
theorem dX10_route_84 : decode cX10_route 84 = .ok (.ishl, 1) := by decide +kernel
theorem dX10_route_85 : decode cX10_route 85 = .ok (.iconst (-1), 1) := by decide +kernel
theorem dX10_route_86 : decode cX10_route 86 = .ok (.ixor, 1) := by decide +kernel
theorem dX10_route_87 : decode cX10_route 87 = .ok (.iand, 1) := by decide +kernel
theorem dX10_route_88 : decode cX10_route 88 = .ok (.invokevirtual 361, 3) := by decide +kernel
theorem dX10_route_91 : decode cX10_route 91 = .ok (.iadd, 1) := by decide +kernel
theorem dX10_route_92 : decode cX10_route 92 = .ok (.aload_n 0, 1) := by decide +kernel
theorem dX10_route_93 : decode cX10_route 93 = .ok (.aload_n 0, 1) := by decide +kernel
theorem dX10_route_94 : decode cX10_route 94 = .ok (.iload_n 3, 1) := by decide +kernel
theorem dX10_route_95 : decode cX10_route 95 = .ok (.invokevirtual 370, 3) := by decide +kernel
theorem dX10_route_98 : decode cX10_route 98 = .ok (.iload_n 2, 1) := by decide +kernel
theorem dX10_route_99 : decode cX10_route 99 = .ok (.invokevirtual 361, 3) := by decide +kernel
theorem dX10_route_102 : decode cX10_route 102 = .ok (.if_icmp .eq 9, 3) := by decide +kernel
theorem dX10_route_105 : decode cX10_route 105 = .ok (.iinc 5 1, 3) := by decide +kernel
theorem dX10_route_108 : decode cX10_route 108 = .ok (.goto (-47), 3) := by decide +kernel
theorem dX10_route_111 : decode cX10_route 111 = .ok (.aload_n 0, 1) := by decide +kernel
theorem dX10_route_112 : decode cX10_route 112 = .ok (.iload 5, 2) := by decide +kernel
theorem dX10_route_114 : decode cX10_route 114 = .ok (.invokevirtual 322, 3) := by decide +kernel
theorem dX10_route_117 : decode cX10_route 117 = .ok (.iload 5, 2) := by decide +kernel
theorem dX10_route_119 : decode cX10_route 119 = .ok (.istore_n 3, 1) := by decide +kernel
theorem dX10_route_120 : decode cX10_route 120 = .ok (.iload_n 2, 1) := by decide +kernel
theorem dX10_route_121 : decode cX10_route 121 = .ok (.iconst 1, 1) := by decide +kernel
theorem dX10_route_122 : decode cX10_route 122 = .ok (.iload 5, 2) := by decide +kernel
theorem dX10_route_124 : decode cX10_route 124 = .ok (.ishl, 1) := by decide +kernel
theorem dX10_route_125 : decode cX10_route 125 = .ok (.iconst (-1), 1) := by decide +kernel
theorem dX10_route_126 : decode cX10_route 126 = .ok (.ixor, 1) := by decide +kernel
theorem dX10_route_127 : decode cX10_route 127 = .ok (.iand, 1) := by decide +kernel
theorem dX10_route_128 : decode cX10_route 128 = .ok (.istore_n 2, 1) := by decide +kernel
theorem dX10_route_129 : decode cX10_route 129 = .ok (.goto (-75), 3) := by decide +kernel
theorem dX10_route_132 : decode cX10_route 132 = .ok (.iload 4, 2) := by decide +kernel
theorem dX10_route_134 : decode cX10_route 134 = .ok (.ireturn, 1) := by decide +kernel
theorem dX10_laySeconds_0 : decode cX10_laySeconds 0 = .ok (.iconst 0, 1) := by decide +kernel
theorem dX10_laySeconds_1 : decode cX10_laySeconds 1 = .ok (.istore_n 1, 1) := by decide +kernel
theorem dX10_laySeconds_2 : decode cX10_laySeconds 2 = .ok (.iload_n 1, 1) := by decide +kernel
theorem dX10_laySeconds_3 : decode cX10_laySeconds 3 = .ok (.aload_n 0, 1) := by decide +kernel
theorem dX10_laySeconds_4 : decode cX10_laySeconds 4 = .ok (.getfield 101, 3) := by decide +kernel
theorem dX10_laySeconds_7 : decode cX10_laySeconds 7 = .ok (.if_icmp .ge 44, 3) := by decide +kernel
theorem dX10_laySeconds_10 : decode cX10_laySeconds 10 = .ok (.iconst 0, 1) := by decide +kernel
theorem dX10_laySeconds_11 : decode cX10_laySeconds 11 = .ok (.istore_n 2, 1) := by decide +kernel
theorem dX10_laySeconds_12 : decode cX10_laySeconds 12 = .ok (.iload_n 2, 1) := by decide +kernel
theorem dX10_laySeconds_13 : decode cX10_laySeconds 13 = .ok (.aload_n 0, 1) := by decide +kernel
theorem dX10_laySeconds_14 : decode cX10_laySeconds 14 = .ok (.getfield 94, 3) := by decide +kernel
theorem dX10_laySeconds_17 : decode cX10_laySeconds 17 = .ok (.if_icmp .ge 28, 3) := by decide +kernel
theorem dX10_laySeconds_20 : decode cX10_laySeconds 20 = .ok (.aload_n 0, 1) := by decide +kernel
theorem dX10_laySeconds_21 : decode cX10_laySeconds 21 = .ok (.getfield 65, 3) := by decide +kernel
theorem dX10_laySeconds_24 : decode cX10_laySeconds 24 = .ok (.bipush 16, 2) := by decide +kernel
theorem dX10_laySeconds_26 : decode cX10_laySeconds 26 = .ok (.iload_n 1, 1) := by decide +kernel
theorem dX10_laySeconds_27 : decode cX10_laySeconds 27 = .ok (.imul, 1) := by decide +kernel
theorem dX10_laySeconds_28 : decode cX10_laySeconds 28 = .ok (.iload_n 2, 1) := by decide +kernel
theorem dX10_laySeconds_29 : decode cX10_laySeconds 29 = .ok (.iadd, 1) := by decide +kernel
theorem dX10_laySeconds_30 : decode cX10_laySeconds 30 = .ok (.aload_n 0, 1) := by decide +kernel
theorem dX10_laySeconds_31 : decode cX10_laySeconds 31 = .ok (.iload_n 2, 1) := by decide +kernel
theorem dX10_laySeconds_32 : decode cX10_laySeconds 32 = .ok (.iload_n 1, 1) := by decide +kernel
theorem dX10_laySeconds_33 : decode cX10_laySeconds 33 = .ok (.iconst 0, 1) := by decide +kernel
theorem dX10_laySeconds_34 : decode cX10_laySeconds 34 = .ok (.iconst 0, 1) := by decide +kernel
theorem dX10_laySeconds_35 : decode cX10_laySeconds 35 = .ok (.invokevirtual 285, 3) := by decide +kernel
theorem dX10_laySeconds_38 : decode cX10_laySeconds 38 = .ok (.iastore, 1) := by decide +kernel
theorem dX10_laySeconds_39 : decode cX10_laySeconds 39 = .ok (.iinc 2 1, 3) := by decide +kernel
theorem dX10_laySeconds_42 : decode cX10_laySeconds 42 = .ok (.goto (-30), 3) := by decide +kernel
theorem dX10_laySeconds_45 : decode cX10_laySeconds 45 = .ok (.iinc 1 1, 3) := by decide +kernel
theorem dX10_laySeconds_48 : decode cX10_laySeconds 48 = .ok (.goto (-46), 3) := by decide +kernel
theorem dX10_laySeconds_51 : decode cX10_laySeconds 51 = .ok (.return_, 1) := by decide +kernel
theorem dX10_workOf_0 : decode cX10_workOf 0 = .ok (.aload_n 0, 1) := by decide +kernel
theorem dX10_workOf_1 : decode cX10_workOf 1 = .ok (.aload_n 0, 1) := by decide +kernel
theorem dX10_workOf_2 : decode cX10_workOf 2 = .ok (.aload_n 0, 1) := by decide +kernel
theorem dX10_workOf_3 : decode cX10_workOf 3 = .ok (.aload_n 0, 1) := by decide +kernel
theorem dX10_workOf_4 : decode cX10_workOf 4 = .ok (.getfield 9, 3) := by decide +kernel
theorem dX10_workOf_7 : decode cX10_workOf 7 = .ok (.bipush 17, 2) := by decide +kernel
theorem dX10_workOf_9 : decode cX10_workOf 9 = .ok (.iaload, 1) := by decide +kernel
theorem dX10_workOf_10 : decode cX10_workOf 10 = .ok (.invokevirtual 370, 3) := by decide +kernel
theorem dX10_workOf_13 : decode cX10_workOf 13 = .ok (.aload_n 0, 1) := by decide +kernel
theorem dX10_workOf_14 : decode cX10_workOf 14 = .ok (.iload_n 1, 1) := by decide +kernel
theorem dX10_workOf_15 : decode cX10_workOf 15 = .ok (.invokevirtual 367, 3) := by decide +kernel
theorem dX10_workOf_18 : decode cX10_workOf 18 = .ok (.invokevirtual 361, 3) := by decide +kernel
theorem dX10_workOf_21 : decode cX10_workOf 21 = .ok (.putfield 373, 3) := by decide +kernel
theorem dX10_workOf_24 : decode cX10_workOf 24 = .ok (.aload_n 0, 1) := by decide +kernel
theorem dX10_workOf_25 : decode cX10_workOf 25 = .ok (.iconst 0, 1) := by decide +kernel
theorem dX10_workOf_26 : decode cX10_workOf 26 = .ok (.putfield 376, 3) := by decide +kernel
theorem dX10_workOf_29 : decode cX10_workOf 29 = .ok (.aload_n 0, 1) := by decide +kernel
theorem dX10_workOf_30 : decode cX10_workOf 30 = .ok (.iconst 0, 1) := by decide +kernel
theorem dX10_workOf_31 : decode cX10_workOf 31 = .ok (.putfield 379, 3) := by decide +kernel
theorem dX10_workOf_34 : decode cX10_workOf 34 = .ok (.iconst 0, 1) := by decide +kernel
theorem dX10_workOf_35 : decode cX10_workOf 35 = .ok (.istore_n 2, 1) := by decide +kernel
theorem dX10_workOf_36 : decode cX10_workOf 36 = .ok (.iload_n 2, 1) := by decide +kernel
theorem dX10_workOf_37 : decode cX10_workOf 37 = .ok (.bipush 8, 2) := by decide +kernel
theorem dX10_workOf_39 : decode cX10_workOf 39 = .ok (.if_icmp .ge 16, 3) := by decide +kernel
theorem dX10_workOf_42 : decode cX10_workOf 42 = .ok (.aload_n 0, 1) := by decide +kernel
theorem dX10_workOf_43 : decode cX10_workOf 43 = .ok (.getfield 68, 3) := by decide +kernel
theorem dX10_workOf_46 : decode cX10_workOf 46 = .ok (.iload_n 2, 1) := by decide +kernel
theorem dX10_workOf_47 : decode cX10_workOf 47 = .ok (.iconst 0, 1) := by decide +kernel
theorem dX10_workOf_48 : decode cX10_workOf 48 = .ok (.iastore, 1) := by decide +kernel
theorem dX10_workOf_49 : decode cX10_workOf 49 = .ok (.iinc 2 1, 3) := by decide +kernel
theorem dX10_workOf_52 : decode cX10_workOf 52 = .ok (.goto (-16), 3) := by decide +kernel
theorem dX10_workOf_55 : decode cX10_workOf 55 = .ok (.iconst 0, 1) := by decide +kernel
theorem dX10_workOf_56 : decode cX10_workOf 56 = .ok (.istore_n 2, 1) := by decide +kernel
theorem dX10_workOf_57 : decode cX10_workOf 57 = .ok (.iload_n 2, 1) := by decide +kernel
theorem dX10_workOf_58 : decode cX10_workOf 58 = .ok (.aload_n 0, 1) := by decide +kernel
theorem dX10_workOf_59 : decode cX10_workOf 59 = .ok (.getfield 94, 3) := by decide +kernel
theorem dX10_workOf_62 : decode cX10_workOf 62 = .ok (.if_icmp .ge 138, 3) := by decide +kernel
theorem dX10_workOf_65 : decode cX10_workOf 65 = .ok (.aload_n 0, 1) := by decide +kernel
theorem dX10_workOf_66 : decode cX10_workOf 66 = .ok (.getfield 337, 3) := by decide +kernel
theorem dX10_workOf_69 : decode cX10_workOf 69 = .ok (.iload_n 2, 1) := by decide +kernel
theorem dX10_workOf_70 : decode cX10_workOf 70 = .ok (.invokestatic 227, 3) := by decide +kernel
theorem dX10_workOf_73 : decode cX10_workOf 73 = .ok (.ifCond .ne 6, 3) := by decide +kernel
theorem dX10_workOf_76 : decode cX10_workOf 76 = .ok (.goto 118, 3) := by decide +kernel
theorem dX10_workOf_79 : decode cX10_workOf 79 = .ok (.iconst (-1), 1) := by decide +kernel
theorem dX10_workOf_80 : decode cX10_workOf 80 = .ok (.istore_n 3, 1) := by decide +kernel
theorem dX10_workOf_81 : decode cX10_workOf 81 = .ok (.iconst 0, 1) := by decide +kernel
theorem dX10_workOf_82 : decode cX10_workOf 82 = .ok (.istore 4, 2) := by decide +kernel
theorem dX10_workOf_84 : decode cX10_workOf 84 = .ok (.iload 4, 2) := by decide +kernel
theorem dX10_workOf_86 : decode cX10_workOf 86 = .ok (.aload_n 0, 1) := by decide +kernel
theorem dX10_workOf_87 : decode cX10_workOf 87 = .ok (.getfield 101, 3) := by decide +kernel
theorem dX10_workOf_90 : decode cX10_workOf 90 = .ok (.if_icmp .ge 66, 3) := by decide +kernel
theorem dX10_workOf_93 : decode cX10_workOf 93 = .ok (.iload_n 1, 1) := by decide +kernel
theorem dX10_workOf_94 : decode cX10_workOf 94 = .ok (.iload 4, 2) := by decide +kernel
theorem dX10_workOf_96 : decode cX10_workOf 96 = .ok (.invokestatic 227, 3) := by decide +kernel
theorem dX10_workOf_99 : decode cX10_workOf 99 = .ok (.ifCond .eq 51, 3) := by decide +kernel
theorem dX10_workOf_102 : decode cX10_workOf 102 = .ok (.aload_n 0, 1) := by decide +kernel
theorem dX10_workOf_103 : decode cX10_workOf 103 = .ok (.getfield 59, 3) := by decide +kernel
theorem dX10_workOf_106 : decode cX10_workOf 106 = .ok (.iload 4, 2) := by decide +kernel
theorem dX10_workOf_108 : decode cX10_workOf 108 = .ok (.iaload, 1) := by decide +kernel
theorem dX10_workOf_109 : decode cX10_workOf 109 = .ok (.iload_n 2, 1) := by decide +kernel
theorem dX10_workOf_110 : decode cX10_workOf 110 = .ok (.invokestatic 227, 3) := by decide +kernel
theorem dX10_workOf_113 : decode cX10_workOf 113 = .ok (.ifCond .eq 37, 3) := by decide +kernel
theorem dX10_workOf_116 : decode cX10_workOf 116 = .ok (.iload_n 3, 1) := by decide +kernel
theorem dX10_workOf_117 : decode cX10_workOf 117 = .ok (.iconst (-1), 1) := by decide +kernel
theorem dX10_workOf_118 : decode cX10_workOf 118 = .ok (.if_icmp .eq 29, 3) := by decide +kernel
theorem dX10_workOf_121 : decode cX10_workOf 121 = .ok (.aload_n 0, 1) := by decide +kernel
theorem dX10_workOf_122 : decode cX10_workOf 122 = .ok (.getfield 65, 3) := by decide +kernel
theorem dX10_workOf_125 : decode cX10_workOf 125 = .ok (.bipush 16, 2) := by decide +kernel
theorem dX10_workOf_127 : decode cX10_workOf 127 = .ok (.iload 4, 2) := by decide +kernel
theorem dX10_workOf_129 : decode cX10_workOf 129 = .ok (.imul, 1) := by decide +kernel
theorem dX10_workOf_130 : decode cX10_workOf 130 = .ok (.iload_n 2, 1) := by decide +kernel
theorem dX10_workOf_131 : decode cX10_workOf 131 = .ok (.iadd, 1) := by decide +kernel
theorem dX10_workOf_132 : decode cX10_workOf 132 = .ok (.iaload, 1) := by decide +kernel
theorem dX10_workOf_133 : decode cX10_workOf 133 = .ok (.aload_n 0, 1) := by decide +kernel
theorem dX10_workOf_134 : decode cX10_workOf 134 = .ok (.getfield 65, 3) := by decide +kernel
theorem dX10_workOf_137 : decode cX10_workOf 137 = .ok (.bipush 16, 2) := by decide +kernel
theorem dX10_workOf_139 : decode cX10_workOf 139 = .ok (.iload_n 3, 1) := by decide +kernel
theorem dX10_workOf_140 : decode cX10_workOf 140 = .ok (.imul, 1) := by decide +kernel
theorem dX10_workOf_141 : decode cX10_workOf 141 = .ok (.iload_n 2, 1) := by decide +kernel
theorem dX10_workOf_142 : decode cX10_workOf 142 = .ok (.iadd, 1) := by decide +kernel
theorem dX10_workOf_143 : decode cX10_workOf 143 = .ok (.iaload, 1) := by decide +kernel
theorem dX10_workOf_144 : decode cX10_workOf 144 = .ok (.if_icmp .ge 6, 3) := by decide +kernel
theorem dX10_workOf_147 : decode cX10_workOf 147 = .ok (.iload 4, 2) := by decide +kernel
theorem dX10_workOf_149 : decode cX10_workOf 149 = .ok (.istore_n 3, 1) := by decide +kernel
theorem dX10_workOf_150 : decode cX10_workOf 150 = .ok (.iinc 4 1, 3) := by decide +kernel
theorem dX10_workOf_153 : decode cX10_workOf 153 = .ok (.goto (-69), 3) := by decide +kernel
theorem dX10_workOf_156 : decode cX10_workOf 156 = .ok (.iload_n 3, 1) := by decide +kernel
theorem dX10_workOf_157 : decode cX10_workOf 157 = .ok (.iconst (-1), 1) := by decide +kernel
theorem dX10_workOf_158 : decode cX10_workOf 158 = .ok (.if_icmp .ne 6, 3) := by decide +kernel
theorem dX10_workOf_161 : decode cX10_workOf 161 = .ok (.goto 33, 3) := by decide +kernel
theorem dX10_workOf_164 : decode cX10_workOf 164 = .ok (.aload_n 0, 1) := by decide +kernel
theorem dX10_workOf_165 : decode cX10_workOf 165 = .ok (.dup, 1) := by decide +kernel
theorem dX10_workOf_166 : decode cX10_workOf 166 = .ok (.getfield 376, 3) := by decide +kernel
theorem dX10_workOf_169 : decode cX10_workOf 169 = .ok (.aload_n 0, 1) := by decide +kernel
theorem dX10_workOf_170 : decode cX10_workOf 170 = .ok (.getfield 65, 3) := by decide +kernel
theorem dX10_workOf_173 : decode cX10_workOf 173 = .ok (.bipush 16, 2) := by decide +kernel
theorem dX10_workOf_175 : decode cX10_workOf 175 = .ok (.iload_n 3, 1) := by decide +kernel
theorem dX10_workOf_176 : decode cX10_workOf 176 = .ok (.imul, 1) := by decide +kernel
theorem dX10_workOf_177 : decode cX10_workOf 177 = .ok (.iload_n 2, 1) := by decide +kernel
theorem dX10_workOf_178 : decode cX10_workOf 178 = .ok (.iadd, 1) := by decide +kernel
theorem dX10_workOf_179 : decode cX10_workOf 179 = .ok (.iaload, 1) := by decide +kernel
theorem dX10_workOf_180 : decode cX10_workOf 180 = .ok (.iadd, 1) := by decide +kernel
theorem dX10_workOf_181 : decode cX10_workOf 181 = .ok (.putfield 376, 3) := by decide +kernel
theorem dX10_workOf_184 : decode cX10_workOf 184 = .ok (.aload_n 0, 1) := by decide +kernel
theorem dX10_workOf_185 : decode cX10_workOf 185 = .ok (.getfield 68, 3) := by decide +kernel
theorem dX10_workOf_188 : decode cX10_workOf 188 = .ok (.iload_n 3, 1) := by decide +kernel
theorem dX10_workOf_189 : decode cX10_workOf 189 = .ok (.dup2, 1) := by decide +kernel
theorem dX10_workOf_190 : decode cX10_workOf 190 = .ok (.iaload, 1) := by decide +kernel
theorem dX10_workOf_191 : decode cX10_workOf 191 = .ok (.iconst 1, 1) := by decide +kernel
theorem dX10_workOf_192 : decode cX10_workOf 192 = .ok (.iadd, 1) := by decide +kernel
theorem dX10_workOf_193 : decode cX10_workOf 193 = .ok (.iastore, 1) := by decide +kernel
theorem dX10_workOf_194 : decode cX10_workOf 194 = .ok (.iinc 2 1, 3) := by decide +kernel
theorem dX10_workOf_197 : decode cX10_workOf 197 = .ok (.goto (-140), 3) := by decide +kernel
theorem dX10_workOf_200 : decode cX10_workOf 200 = .ok (.iconst 0, 1) := by decide +kernel
theorem dX10_workOf_201 : decode cX10_workOf 201 = .ok (.istore_n 2, 1) := by decide +kernel
theorem dX10_workOf_202 : decode cX10_workOf 202 = .ok (.iload_n 2, 1) := by decide +kernel
theorem dX10_workOf_203 : decode cX10_workOf 203 = .ok (.aload_n 0, 1) := by decide +kernel
theorem dX10_workOf_204 : decode cX10_workOf 204 = .ok (.getfield 101, 3) := by decide +kernel
theorem dX10_workOf_207 : decode cX10_workOf 207 = .ok (.if_icmp .ge 46, 3) := by decide +kernel
theorem dX10_workOf_210 : decode cX10_workOf 210 = .ok (.aload_n 0, 1) := by decide +kernel
theorem dX10_workOf_211 : decode cX10_workOf 211 = .ok (.dup, 1) := by decide +kernel
theorem dX10_workOf_212 : decode cX10_workOf 212 = .ok (.getfield 379, 3) := by decide +kernel
theorem dX10_workOf_215 : decode cX10_workOf 215 = .ok (.aload_n 0, 1) := by decide +kernel
theorem dX10_workOf_216 : decode cX10_workOf 216 = .ok (.getfield 68, 3) := by decide +kernel
theorem dX10_workOf_219 : decode cX10_workOf 219 = .ok (.iload_n 2, 1) := by decide +kernel
theorem dX10_workOf_220 : decode cX10_workOf 220 = .ok (.iaload, 1) := by decide +kernel
theorem dX10_workOf_221 : decode cX10_workOf 221 = .ok (.aload_n 0, 1) := by decide +kernel
theorem dX10_workOf_222 : decode cX10_workOf 222 = .ok (.getfield 31, 3) := by decide +kernel
theorem dX10_workOf_225 : decode cX10_workOf 225 = .ok (.iconst 4, 1) := by decide +kernel
theorem dX10_workOf_226 : decode cX10_workOf 226 = .ok (.iaload, 1) := by decide +kernel
theorem dX10_workOf_227 : decode cX10_workOf 227 = .ok (.iadd, 1) := by decide +kernel
theorem dX10_workOf_228 : decode cX10_workOf 228 = .ok (.iconst 1, 1) := by decide +kernel
theorem dX10_workOf_229 : decode cX10_workOf 229 = .ok (.isub, 1) := by decide +kernel
theorem dX10_workOf_230 : decode cX10_workOf 230 = .ok (.aload_n 0, 1) := by decide +kernel
theorem dX10_workOf_231 : decode cX10_workOf 231 = .ok (.getfield 31, 3) := by decide +kernel
theorem dX10_workOf_234 : decode cX10_workOf 234 = .ok (.iconst 4, 1) := by decide +kernel
theorem dX10_workOf_235 : decode cX10_workOf 235 = .ok (.iaload, 1) := by decide +kernel
theorem dX10_workOf_236 : decode cX10_workOf 236 = .ok (.idiv, 1) := by decide +kernel
theorem dX10_workOf_237 : decode cX10_workOf 237 = .ok (.aload_n 0, 1) := by decide +kernel
theorem dX10_workOf_238 : decode cX10_workOf 238 = .ok (.iload_n 2, 1) := by decide +kernel
theorem dX10_workOf_239 : decode cX10_workOf 239 = .ok (.invokevirtual 254, 3) := by decide +kernel
theorem dX10_workOf_242 : decode cX10_workOf 242 = .ok (.imul, 1) := by decide +kernel
theorem dX10_workOf_243 : decode cX10_workOf 243 = .ok (.iadd, 1) := by decide +kernel
theorem dX10_workOf_244 : decode cX10_workOf 244 = .ok (.putfield 379, 3) := by decide +kernel
theorem dX10_workOf_247 : decode cX10_workOf 247 = .ok (.iinc 2 1, 3) := by decide +kernel
theorem dX10_workOf_250 : decode cX10_workOf 250 = .ok (.goto (-48), 3) := by decide +kernel
theorem dX10_workOf_253 : decode cX10_workOf 253 = .ok (.aload_n 0, 1) := by decide +kernel
theorem dX10_workOf_254 : decode cX10_workOf 254 = .ok (.getfield 373, 3) := by decide +kernel
theorem dX10_workOf_257 : decode cX10_workOf 257 = .ok (.aload_n 0, 1) := by decide +kernel
theorem dX10_workOf_258 : decode cX10_workOf 258 = .ok (.getfield 376, 3) := by decide +kernel
theorem dX10_workOf_261 : decode cX10_workOf 261 = .ok (.iadd, 1) := by decide +kernel
theorem dX10_workOf_262 : decode cX10_workOf 262 = .ok (.aload_n 0, 1) := by decide +kernel
theorem dX10_workOf_263 : decode cX10_workOf 263 = .ok (.getfield 379, 3) := by decide +kernel
theorem dX10_workOf_266 : decode cX10_workOf 266 = .ok (.iadd, 1) := by decide +kernel
theorem dX10_workOf_267 : decode cX10_workOf 267 = .ok (.ireturn, 1) := by decide +kernel
theorem dX10_work_0 : decode cX10_work 0 = .ok (.aload_n 0, 1) := by decide +kernel
theorem dX10_work_1 : decode cX10_work 1 = .ok (.iconst 0, 1) := by decide +kernel
theorem dX10_work_2 : decode cX10_work 2 = .ok (.putfield 87, 3) := by decide +kernel
theorem dX10_work_5 : decode cX10_work 5 = .ok (.iload_n 1, 1) := by decide +kernel
theorem dX10_work_6 : decode cX10_work 6 = .ok (.iconst 0, 1) := by decide +kernel
theorem dX10_work_7 : decode cX10_work 7 = .ok (.aload_n 0, 1) := by decide +kernel
theorem dX10_work_8 : decode cX10_work 8 = .ok (.invokevirtual 331, 3) := by decide +kernel
theorem dX10_work_11 : decode cX10_work 11 = .ok (.invokestatic 97, 3) := by decide +kernel
theorem dX10_work_14 : decode cX10_work 14 = .ok (.ifCond .ne 5, 3) := by decide +kernel
theorem dX10_work_17 : decode cX10_work 17 = .ok (.iconst (-1), 1) := by decide +kernel
theorem dX10_work_18 : decode cX10_work 18 = .ok (.ireturn, 1) := by decide +kernel
theorem dX10_work_19 : decode cX10_work 19 = .ok (.aload_n 0, 1) := by decide +kernel
theorem dX10_work_20 : decode cX10_work 20 = .ok (.invokevirtual 349, 3) := by decide +kernel
theorem dX10_work_23 : decode cX10_work 23 = .ok (.aload_n 0, 1) := by decide +kernel
theorem dX10_work_24 : decode cX10_work 24 = .ok (.invokevirtual 364, 3) := by decide +kernel
theorem dX10_work_27 : decode cX10_work 27 = .ok (.aload_n 0, 1) := by decide +kernel
theorem dX10_work_28 : decode cX10_work 28 = .ok (.invokevirtual 382, 3) := by decide +kernel
theorem dX10_work_31 : decode cX10_work 31 = .ok (.aload_n 0, 1) := by decide +kernel
theorem dX10_work_32 : decode cX10_work 32 = .ok (.iload_n 1, 1) := by decide +kernel
theorem dX10_work_33 : decode cX10_work 33 = .ok (.invokevirtual 385, 3) := by decide +kernel
theorem dX10_work_36 : decode cX10_work 36 = .ok (.istore_n 2, 1) := by decide +kernel
theorem dX10_work_37 : decode cX10_work 37 = .ok (.aload_n 0, 1) := by decide +kernel
theorem dX10_work_38 : decode cX10_work 38 = .ok (.iconst 0, 1) := by decide +kernel
theorem dX10_work_39 : decode cX10_work 39 = .ok (.putfield 91, 3) := by decide +kernel
theorem dX10_work_42 : decode cX10_work 42 = .ok (.aload_n 0, 1) := by decide +kernel
theorem dX10_work_43 : decode cX10_work 43 = .ok (.aload_n 0, 1) := by decide +kernel
theorem dX10_work_44 : decode cX10_work 44 = .ok (.getfield 373, 3) := by decide +kernel
theorem dX10_work_47 : decode cX10_work 47 = .ok (.invokevirtual 322, 3) := by decide +kernel
theorem dX10_work_50 : decode cX10_work 50 = .ok (.aload_n 0, 1) := by decide +kernel
theorem dX10_work_51 : decode cX10_work 51 = .ok (.aload_n 0, 1) := by decide +kernel
theorem dX10_work_52 : decode cX10_work 52 = .ok (.getfield 376, 3) := by decide +kernel
theorem dX10_work_55 : decode cX10_work 55 = .ok (.invokevirtual 322, 3) := by decide +kernel
theorem dX10_work_58 : decode cX10_work 58 = .ok (.aload_n 0, 1) := by decide +kernel
theorem dX10_work_59 : decode cX10_work 59 = .ok (.aload_n 0, 1) := by decide +kernel
theorem dX10_work_60 : decode cX10_work 60 = .ok (.getfield 379, 3) := by decide +kernel
theorem dX10_work_63 : decode cX10_work 63 = .ok (.invokevirtual 322, 3) := by decide +kernel
theorem dX10_work_66 : decode cX10_work 66 = .ok (.iload_n 2, 1) := by decide +kernel
theorem dX10_work_67 : decode cX10_work 67 = .ok (.ireturn, 1) := by decide +kernel
theorem dX10_soonest_0 : decode cX10_soonest 0 = .ok (.aload_n 0, 1) := by decide +kernel
theorem dX10_soonest_1 : decode cX10_soonest 1 = .ok (.iconst 0, 1) := by decide +kernel
theorem dX10_soonest_2 : decode cX10_soonest 2 = .ok (.putfield 87, 3) := by decide +kernel
theorem dX10_soonest_5 : decode cX10_soonest 5 = .ok (.aload_n 0, 1) := by decide +kernel
theorem dX10_soonest_6 : decode cX10_soonest 6 = .ok (.invokevirtual 349, 3) := by decide +kernel
theorem dX10_soonest_9 : decode cX10_soonest 9 = .ok (.aload_n 0, 1) := by decide +kernel
theorem dX10_soonest_10 : decode cX10_soonest 10 = .ok (.invokevirtual 364, 3) := by decide +kernel
theorem dX10_soonest_13 : decode cX10_soonest 13 = .ok (.aload_n 0, 1) := by decide +kernel
theorem dX10_soonest_14 : decode cX10_soonest 14 = .ok (.invokevirtual 382, 3) := by decide +kernel
theorem dX10_soonest_17 : decode cX10_soonest 17 = .ok (.iconst (-1), 1) := by decide +kernel
theorem dX10_soonest_18 : decode cX10_soonest 18 = .ok (.istore_n 1, 1) := by decide +kernel
theorem dX10_soonest_19 : decode cX10_soonest 19 = .ok (.ldc_w 360, 3) := by decide +kernel
theorem dX10_soonest_22 : decode cX10_soonest 22 = .ok (.istore_n 2, 1) := by decide +kernel
theorem dX10_soonest_23 : decode cX10_soonest 23 = .ok (.iconst 0, 1) := by decide +kernel
theorem dX10_soonest_24 : decode cX10_soonest 24 = .ok (.istore_n 3, 1) := by decide +kernel
theorem dX10_soonest_25 : decode cX10_soonest 25 = .ok (.iload_n 3, 1) := by decide +kernel
theorem dX10_soonest_26 : decode cX10_soonest 26 = .ok (.aload_n 0, 1) := by decide +kernel
theorem dX10_soonest_27 : decode cX10_soonest 27 = .ok (.invokevirtual 331, 3) := by decide +kernel
theorem dX10_soonest_30 : decode cX10_soonest 30 = .ok (.if_icmp .gt 65, 3) := by decide +kernel
theorem dX10_soonest_33 : decode cX10_soonest 33 = .ok (.aload_n 0, 1) := by decide +kernel
theorem dX10_soonest_34 : decode cX10_soonest 34 = .ok (.getfield 337, 3) := by decide +kernel
theorem dX10_soonest_37 : decode cX10_soonest 37 = .ok (.aload_n 0, 1) := by decide +kernel
theorem dX10_soonest_38 : decode cX10_soonest 38 = .ok (.iload_n 3, 1) := by decide +kernel
theorem dX10_soonest_39 : decode cX10_soonest 39 = .ok (.invokevirtual 334, 3) := by decide +kernel
theorem dX10_soonest_42 : decode cX10_soonest 42 = .ok (.iconst (-1), 1) := by decide +kernel
theorem dX10_soonest_43 : decode cX10_soonest 43 = .ok (.ixor, 1) := by decide +kernel
theorem dX10_soonest_44 : decode cX10_soonest 44 = .ok (.iand, 1) := by decide +kernel
theorem dX10_soonest_45 : decode cX10_soonest 45 = .ok (.ifCond .eq 6, 3) := by decide +kernel
theorem dX10_soonest_48 : decode cX10_soonest 48 = .ok (.goto 41, 3) := by decide +kernel
theorem dX10_soonest_51 : decode cX10_soonest 51 = .ok (.aload_n 0, 1) := by decide +kernel
theorem dX10_soonest_52 : decode cX10_soonest 52 = .ok (.iload_n 3, 1) := by decide +kernel
theorem dX10_soonest_53 : decode cX10_soonest 53 = .ok (.invokevirtual 385, 3) := by decide +kernel
theorem dX10_soonest_56 : decode cX10_soonest 56 = .ok (.istore 4, 2) := by decide +kernel
theorem dX10_soonest_58 : decode cX10_soonest 58 = .ok (.iload 4, 2) := by decide +kernel
theorem dX10_soonest_60 : decode cX10_soonest 60 = .ok (.iload_n 2, 1) := by decide +kernel
theorem dX10_soonest_61 : decode cX10_soonest 61 = .ok (.if_icmp .gt 28, 3) := by decide +kernel
theorem dX10_soonest_64 : decode cX10_soonest 64 = .ok (.iload 4, 2) := by decide +kernel
theorem dX10_soonest_66 : decode cX10_soonest 66 = .ok (.iload_n 2, 1) := by decide +kernel
theorem dX10_soonest_67 : decode cX10_soonest 67 = .ok (.if_icmp .ne 17, 3) := by decide +kernel
theorem dX10_soonest_70 : decode cX10_soonest 70 = .ok (.iload_n 3, 1) := by decide +kernel
theorem dX10_soonest_71 : decode cX10_soonest 71 = .ok (.invokestatic 280, 3) := by decide +kernel
theorem dX10_soonest_74 : decode cX10_soonest 74 = .ok (.iload_n 1, 1) := by decide +kernel
theorem dX10_soonest_75 : decode cX10_soonest 75 = .ok (.invokestatic 280, 3) := by decide +kernel
theorem dX10_soonest_78 : decode cX10_soonest 78 = .ok (.if_icmp .lt 6, 3) := by decide +kernel
theorem dX10_soonest_81 : decode cX10_soonest 81 = .ok (.goto 8, 3) := by decide +kernel
theorem dX10_soonest_84 : decode cX10_soonest 84 = .ok (.iload_n 3, 1) := by decide +kernel
theorem dX10_soonest_85 : decode cX10_soonest 85 = .ok (.istore_n 1, 1) := by decide +kernel
theorem dX10_soonest_86 : decode cX10_soonest 86 = .ok (.iload 4, 2) := by decide +kernel
theorem dX10_soonest_88 : decode cX10_soonest 88 = .ok (.istore_n 2, 1) := by decide +kernel
theorem dX10_soonest_89 : decode cX10_soonest 89 = .ok (.iinc 3 1, 3) := by decide +kernel
theorem dX10_soonest_92 : decode cX10_soonest 92 = .ok (.goto (-67), 3) := by decide +kernel
theorem dX10_soonest_95 : decode cX10_soonest 95 = .ok (.aload_n 0, 1) := by decide +kernel
theorem dX10_soonest_96 : decode cX10_soonest 96 = .ok (.iconst 0, 1) := by decide +kernel
theorem dX10_soonest_97 : decode cX10_soonest 97 = .ok (.putfield 91, 3) := by decide +kernel
theorem dX10_soonest_100 : decode cX10_soonest 100 = .ok (.aload_n 0, 1) := by decide +kernel
theorem dX10_soonest_101 : decode cX10_soonest 101 = .ok (.iload_n 1, 1) := by decide +kernel
theorem dX10_soonest_102 : decode cX10_soonest 102 = .ok (.invokevirtual 322, 3) := by decide +kernel
theorem dX10_soonest_105 : decode cX10_soonest 105 = .ok (.iload_n 2, 1) := by decide +kernel
theorem dX10_soonest_106 : decode cX10_soonest 106 = .ok (.ireturn, 1) := by decide +kernel
theorem dX10_pays_0 : decode cX10_pays 0 = .ok (.aload_n 0, 1) := by decide +kernel
theorem dX10_pays_1 : decode cX10_pays 1 = .ok (.iconst 0, 1) := by decide +kernel
theorem dX10_pays_2 : decode cX10_pays 2 = .ok (.putfield 87, 3) := by decide +kernel
theorem dX10_pays_5 : decode cX10_pays 5 = .ok (.aload_n 0, 1) := by decide +kernel
theorem dX10_pays_6 : decode cX10_pays 6 = .ok (.iload_n 1, 1) := by decide +kernel
theorem dX10_pays_7 : decode cX10_pays 7 = .ok (.invokevirtual 251, 3) := by decide +kernel
theorem dX10_pays_10 : decode cX10_pays 10 = .ok (.ifCond .ne 5, 3) := by decide +kernel
theorem dX10_pays_13 : decode cX10_pays 13 = .ok (.iconst (-1), 1) := by decide +kernel
theorem dX10_pays_14 : decode cX10_pays 14 = .ok (.ireturn, 1) := by decide +kernel
theorem dX10_pays_15 : decode cX10_pays 15 = .ok (.aload_n 0, 1) := by decide +kernel
theorem dX10_pays_16 : decode cX10_pays 16 = .ok (.invokevirtual 349, 3) := by decide +kernel
theorem dX10_pays_19 : decode cX10_pays 19 = .ok (.aload_n 0, 1) := by decide +kernel
theorem dX10_pays_20 : decode cX10_pays 20 = .ok (.getfield 337, 3) := by decide +kernel
theorem dX10_pays_23 : decode cX10_pays 23 = .ok (.aload_n 0, 1) := by decide +kernel
theorem dX10_pays_24 : decode cX10_pays 24 = .ok (.getfield 59, 3) := by decide +kernel
theorem dX10_pays_27 : decode cX10_pays 27 = .ok (.iload_n 1, 1) := by decide +kernel
theorem dX10_pays_28 : decode cX10_pays 28 = .ok (.iaload, 1) := by decide +kernel
theorem dX10_pays_29 : decode cX10_pays 29 = .ok (.iand, 1) := by decide +kernel
theorem dX10_pays_30 : decode cX10_pays 30 = .ok (.istore_n 2, 1) := by decide +kernel
theorem dX10_pays_31 : decode cX10_pays 31 = .ok (.iconst 0, 1) := by decide +kernel
theorem dX10_pays_32 : decode cX10_pays 32 = .ok (.istore_n 3, 1) := by decide +kernel
theorem dX10_pays_33 : decode cX10_pays 33 = .ok (.iconst 0, 1) := by decide +kernel
theorem dX10_pays_34 : decode cX10_pays 34 = .ok (.istore 4, 2) := by decide +kernel
theorem dX10_pays_36 : decode cX10_pays 36 = .ok (.iload 4, 2) := by decide +kernel
theorem dX10_pays_38 : decode cX10_pays 38 = .ok (.aload_n 0, 1) := by decide +kernel
theorem dX10_pays_39 : decode cX10_pays 39 = .ok (.getfield 94, 3) := by decide +kernel
theorem dX10_pays_42 : decode cX10_pays 42 = .ok (.if_icmp .ge 34, 3) := by decide +kernel
theorem dX10_pays_45 : decode cX10_pays 45 = .ok (.iload_n 3, 1) := by decide +kernel
theorem dX10_pays_46 : decode cX10_pays 46 = .ok (.iload_n 2, 1) := by decide +kernel
theorem dX10_pays_47 : decode cX10_pays 47 = .ok (.iload 4, 2) := by decide +kernel
theorem dX10_pays_49 : decode cX10_pays 49 = .ok (.invokestatic 227, 3) := by decide +kernel
theorem dX10_pays_52 : decode cX10_pays 52 = .ok (.ifCond .eq 15, 3) := by decide +kernel
theorem dX10_pays_55 : decode cX10_pays 55 = .ok (.aload_n 0, 1) := by decide +kernel
theorem dX10_pays_56 : decode cX10_pays 56 = .ok (.iload 4, 2) := by decide +kernel
theorem dX10_pays_58 : decode cX10_pays 58 = .ok (.iload_n 1, 1) := by decide +kernel
theorem dX10_pays_59 : decode cX10_pays 59 = .ok (.iconst 0, 1) := by decide +kernel
theorem dX10_pays_60 : decode cX10_pays 60 = .ok (.iconst 0, 1) := by decide +kernel
theorem dX10_pays_61 : decode cX10_pays 61 = .ok (.invokevirtual 285, 3) := by decide +kernel
theorem dX10_pays_64 : decode cX10_pays 64 = .ok (.goto 4, 3) := by decide +kernel
theorem dX10_pays_67 : decode cX10_pays 67 = .ok (.iconst 0, 1) := by decide +kernel
theorem dX10_pays_68 : decode cX10_pays 68 = .ok (.iadd, 1) := by decide +kernel
theorem dX10_pays_69 : decode cX10_pays 69 = .ok (.istore_n 3, 1) := by decide +kernel
theorem dX10_pays_70 : decode cX10_pays 70 = .ok (.iinc 4 1, 3) := by decide +kernel
theorem dX10_pays_73 : decode cX10_pays 73 = .ok (.goto (-37), 3) := by decide +kernel
theorem dX10_pays_76 : decode cX10_pays 76 = .ok (.aload_n 0, 1) := by decide +kernel
theorem dX10_pays_77 : decode cX10_pays 77 = .ok (.iconst 0, 1) := by decide +kernel
theorem dX10_pays_78 : decode cX10_pays 78 = .ok (.putfield 91, 3) := by decide +kernel
theorem dX10_pays_81 : decode cX10_pays 81 = .ok (.aload_n 0, 1) := by decide +kernel
theorem dX10_pays_82 : decode cX10_pays 82 = .ok (.aload_n 0, 1) := by decide +kernel
theorem dX10_pays_83 : decode cX10_pays 83 = .ok (.getfield 9, 3) := by decide +kernel
theorem dX10_pays_86 : decode cX10_pays 86 = .ok (.bipush 17, 2) := by decide +kernel
theorem dX10_pays_88 : decode cX10_pays 88 = .ok (.iaload, 1) := by decide +kernel
theorem dX10_pays_89 : decode cX10_pays 89 = .ok (.iload_n 1, 1) := by decide +kernel
theorem dX10_pays_90 : decode cX10_pays 90 = .ok (.if_icmp .ne 7, 3) := by decide +kernel
theorem dX10_pays_93 : decode cX10_pays 93 = .ok (.iconst 0, 1) := by decide +kernel
theorem dX10_pays_94 : decode cX10_pays 94 = .ok (.goto 15, 3) := by decide +kernel
theorem dX10_pays_97 : decode cX10_pays 97 = .ok (.aload_n 0, 1) := by decide +kernel
theorem dX10_pays_98 : decode cX10_pays 98 = .ok (.aload_n 0, 1) := by decide +kernel
theorem dX10_pays_99 : decode cX10_pays 99 = .ok (.getfield 9, 3) := by decide +kernel
theorem dX10_pays_102 : decode cX10_pays 102 = .ok (.bipush 17, 2) := by decide +kernel
theorem dX10_pays_104 : decode cX10_pays 104 = .ok (.iaload, 1) := by decide +kernel
theorem dX10_pays_105 : decode cX10_pays 105 = .ok (.iload_n 1, 1) := by decide +kernel
theorem dX10_pays_106 : decode cX10_pays 106 = .ok (.invokevirtual 261, 3) := by decide +kernel
theorem dX10_pays_109 : decode cX10_pays 109 = .ok (.invokevirtual 322, 3) := by decide +kernel
theorem dX10_pays_112 : decode cX10_pays 112 = .ok (.aload_n 0, 1) := by decide +kernel
theorem dX10_pays_113 : decode cX10_pays 113 = .ok (.iload_n 3, 1) := by decide +kernel
theorem dX10_pays_114 : decode cX10_pays 114 = .ok (.invokevirtual 322, 3) := by decide +kernel
theorem dX10_pays_117 : decode cX10_pays 117 = .ok (.aload_n 0, 1) := by decide +kernel
theorem dX10_pays_118 : decode cX10_pays 118 = .ok (.iload_n 2, 1) := by decide +kernel
theorem dX10_pays_119 : decode cX10_pays 119 = .ok (.invokestatic 280, 3) := by decide +kernel
theorem dX10_pays_122 : decode cX10_pays 122 = .ok (.aload_n 0, 1) := by decide +kernel
theorem dX10_pays_123 : decode cX10_pays 123 = .ok (.getfield 31, 3) := by decide +kernel
theorem dX10_pays_126 : decode cX10_pays 126 = .ok (.iconst 4, 1) := by decide +kernel
theorem dX10_pays_127 : decode cX10_pays 127 = .ok (.iaload, 1) := by decide +kernel
theorem dX10_pays_128 : decode cX10_pays 128 = .ok (.iadd, 1) := by decide +kernel
theorem dX10_pays_129 : decode cX10_pays 129 = .ok (.iconst 1, 1) := by decide +kernel
theorem dX10_pays_130 : decode cX10_pays 130 = .ok (.isub, 1) := by decide +kernel
theorem dX10_pays_131 : decode cX10_pays 131 = .ok (.aload_n 0, 1) := by decide +kernel
theorem dX10_pays_132 : decode cX10_pays 132 = .ok (.getfield 31, 3) := by decide +kernel
theorem dX10_pays_135 : decode cX10_pays 135 = .ok (.iconst 4, 1) := by decide +kernel
theorem dX10_pays_136 : decode cX10_pays 136 = .ok (.iaload, 1) := by decide +kernel
theorem dX10_pays_137 : decode cX10_pays 137 = .ok (.idiv, 1) := by decide +kernel
theorem dX10_pays_138 : decode cX10_pays 138 = .ok (.aload_n 0, 1) := by decide +kernel
theorem dX10_pays_139 : decode cX10_pays 139 = .ok (.iload_n 1, 1) := by decide +kernel
theorem dX10_pays_140 : decode cX10_pays 140 = .ok (.invokevirtual 254, 3) := by decide +kernel
theorem dX10_pays_143 : decode cX10_pays 143 = .ok (.imul, 1) := by decide +kernel
theorem dX10_pays_144 : decode cX10_pays 144 = .ok (.invokevirtual 322, 3) := by decide +kernel
theorem dX10_pays_147 : decode cX10_pays 147 = .ok (.aload_n 0, 1) := by decide +kernel
theorem dX10_pays_148 : decode cX10_pays 148 = .ok (.iload_n 2, 1) := by decide +kernel
theorem dX10_pays_149 : decode cX10_pays 149 = .ok (.aload_n 0, 1) := by decide +kernel
theorem dX10_pays_150 : decode cX10_pays 150 = .ok (.getfield 9, 3) := by decide +kernel
theorem dX10_pays_153 : decode cX10_pays 153 = .ok (.bipush 16, 2) := by decide +kernel
theorem dX10_pays_155 : decode cX10_pays 155 = .ok (.iaload, 1) := by decide +kernel
theorem dX10_pays_156 : decode cX10_pays 156 = .ok (.invokevirtual 325, 3) := by decide +kernel
theorem dX10_pays_159 : decode cX10_pays 159 = .ok (.ireturn, 1) := by decide +kernel
theorem dX10_trips_0 : decode cX10_trips 0 = .ok (.aload_n 0, 1) := by decide +kernel
theorem dX10_trips_1 : decode cX10_trips 1 = .ok (.iconst 0, 1) := by decide +kernel
theorem dX10_trips_2 : decode cX10_trips 2 = .ok (.putfield 87, 3) := by decide +kernel
theorem dX10_trips_5 : decode cX10_trips 5 = .ok (.aload_n 0, 1) := by decide +kernel
theorem dX10_trips_6 : decode cX10_trips 6 = .ok (.iload_n 1, 1) := by decide +kernel
theorem dX10_trips_7 : decode cX10_trips 7 = .ok (.invokevirtual 251, 3) := by decide +kernel
theorem dX10_trips_10 : decode cX10_trips 10 = .ok (.ifCond .ne 5, 3) := by decide +kernel
theorem dX10_trips_13 : decode cX10_trips 13 = .ok (.iconst (-1), 1) := by decide +kernel
theorem dX10_trips_14 : decode cX10_trips 14 = .ok (.ireturn, 1) := by decide +kernel
theorem dX10_trips_15 : decode cX10_trips 15 = .ok (.aload_n 0, 1) := by decide +kernel
theorem dX10_trips_16 : decode cX10_trips 16 = .ok (.invokevirtual 349, 3) := by decide +kernel
theorem dX10_trips_19 : decode cX10_trips 19 = .ok (.aload_n 0, 1) := by decide +kernel
theorem dX10_trips_20 : decode cX10_trips 20 = .ok (.getfield 9, 3) := by decide +kernel
theorem dX10_trips_23 : decode cX10_trips 23 = .ok (.bipush 17, 2) := by decide +kernel
theorem dX10_trips_25 : decode cX10_trips 25 = .ok (.iaload, 1) := by decide +kernel
theorem dX10_trips_26 : decode cX10_trips 26 = .ok (.iload_n 1, 1) := by decide +kernel
theorem dX10_trips_27 : decode cX10_trips 27 = .ok (.if_icmp .ne 18, 3) := by decide +kernel
theorem dX10_trips_30 : decode cX10_trips 30 = .ok (.aload_n 0, 1) := by decide +kernel
theorem dX10_trips_31 : decode cX10_trips 31 = .ok (.aload_n 0, 1) := by decide +kernel
theorem dX10_trips_32 : decode cX10_trips 32 = .ok (.getfield 9, 3) := by decide +kernel
theorem dX10_trips_35 : decode cX10_trips 35 = .ok (.iconst 1, 1) := by decide +kernel
theorem dX10_trips_36 : decode cX10_trips 36 = .ok (.invokevirtual 244, 3) := by decide +kernel
theorem dX10_trips_39 : decode cX10_trips 39 = .ok (.invokestatic 280, 3) := by decide +kernel
theorem dX10_trips_42 : decode cX10_trips 42 = .ok (.goto 4, 3) := by decide +kernel
theorem dX10_trips_45 : decode cX10_trips 45 = .ok (.iconst 0, 1) := by decide +kernel
theorem dX10_trips_46 : decode cX10_trips 46 = .ok (.istore_n 2, 1) := by decide +kernel
theorem dX10_trips_47 : decode cX10_trips 47 = .ok (.iconst 0, 1) := by decide +kernel
theorem dX10_trips_48 : decode cX10_trips 48 = .ok (.istore_n 3, 1) := by decide +kernel
theorem dX10_trips_49 : decode cX10_trips 49 = .ok (.aload_n 0, 1) := by decide +kernel
theorem dX10_trips_50 : decode cX10_trips 50 = .ok (.getfield 337, 3) := by decide +kernel
theorem dX10_trips_53 : decode cX10_trips 53 = .ok (.aload_n 0, 1) := by decide +kernel
theorem dX10_trips_54 : decode cX10_trips 54 = .ok (.getfield 59, 3) := by decide +kernel
theorem dX10_trips_57 : decode cX10_trips 57 = .ok (.iload_n 1, 1) := by decide +kernel
theorem dX10_trips_58 : decode cX10_trips 58 = .ok (.iaload, 1) := by decide +kernel
theorem dX10_trips_59 : decode cX10_trips 59 = .ok (.iand, 1) := by decide +kernel
theorem dX10_trips_60 : decode cX10_trips 60 = .ok (.invokestatic 280, 3) := by decide +kernel
theorem dX10_trips_63 : decode cX10_trips 63 = .ok (.istore 4, 2) := by decide +kernel
theorem dX10_trips_65 : decode cX10_trips 65 = .ok (.iload 4, 2) := by decide +kernel
theorem dX10_trips_67 : decode cX10_trips 67 = .ok (.ifCond .le 27, 3) := by decide +kernel
theorem dX10_trips_70 : decode cX10_trips 70 = .ok (.iload_n 2, 1) := by decide +kernel
theorem dX10_trips_71 : decode cX10_trips 71 = .ok (.aload_n 0, 1) := by decide +kernel
theorem dX10_trips_72 : decode cX10_trips 72 = .ok (.getfield 31, 3) := by decide +kernel
theorem dX10_trips_75 : decode cX10_trips 75 = .ok (.iconst 4, 1) := by decide +kernel
theorem dX10_trips_76 : decode cX10_trips 76 = .ok (.iaload, 1) := by decide +kernel
theorem dX10_trips_77 : decode cX10_trips 77 = .ok (.if_icmp .lt 8, 3) := by decide +kernel
theorem dX10_trips_80 : decode cX10_trips 80 = .ok (.iinc 3 1, 3) := by decide +kernel
theorem dX10_trips_83 : decode cX10_trips 83 = .ok (.iconst 0, 1) := by decide +kernel
theorem dX10_trips_84 : decode cX10_trips 84 = .ok (.istore_n 2, 1) := by decide +kernel
theorem dX10_trips_85 : decode cX10_trips 85 = .ok (.iinc 2 1, 3) := by decide +kernel
theorem dX10_trips_88 : decode cX10_trips 88 = .ok (.iinc 4 (-1), 3) := by decide +kernel
theorem dX10_trips_91 : decode cX10_trips 91 = .ok (.goto (-26), 3) := by decide +kernel
theorem dX10_trips_94 : decode cX10_trips 94 = .ok (.aload_n 0, 1) := by decide +kernel
theorem dX10_trips_95 : decode cX10_trips 95 = .ok (.iconst 0, 1) := by decide +kernel
theorem dX10_trips_96 : decode cX10_trips 96 = .ok (.putfield 91, 3) := by decide +kernel
theorem dX10_trips_99 : decode cX10_trips 99 = .ok (.aload_n 0, 1) := by decide +kernel
theorem dX10_trips_100 : decode cX10_trips 100 = .ok (.iload_n 2, 1) := by decide +kernel
theorem dX10_trips_101 : decode cX10_trips 101 = .ok (.invokevirtual 322, 3) := by decide +kernel
theorem dX10_trips_104 : decode cX10_trips 104 = .ok (.iload_n 3, 1) := by decide +kernel
theorem dX10_trips_105 : decode cX10_trips 105 = .ok (.ireturn, 1) := by decide +kernel
theorem dX10_helps_0 : decode cX10_helps 0 = .ok (.aload_n 0, 1) := by decide +kernel
theorem dX10_helps_1 : decode cX10_helps 1 = .ok (.iconst 0, 1) := by decide +kernel
theorem dX10_helps_2 : decode cX10_helps 2 = .ok (.putfield 87, 3) := by decide +kernel
theorem dX10_helps_5 : decode cX10_helps 5 = .ok (.aload_n 0, 1) := by decide +kernel
theorem dX10_helps_6 : decode cX10_helps 6 = .ok (.iconst 0, 1) := by decide +kernel
theorem dX10_helps_7 : decode cX10_helps 7 = .ok (.invokevirtual 328, 3) := by decide +kernel
theorem dX10_helps_10 : decode cX10_helps 10 = .ok (.aload_n 0, 1) := by decide +kernel
theorem dX10_helps_11 : decode cX10_helps 11 = .ok (.aload_n 0, 1) := by decide +kernel
theorem dX10_helps_12 : decode cX10_helps 12 = .ok (.getfield 337, 3) := by decide +kernel
theorem dX10_helps_15 : decode cX10_helps 15 = .ok (.invokevirtual 346, 3) := by decide +kernel
theorem dX10_helps_18 : decode cX10_helps 18 = .ok (.invokestatic 280, 3) := by decide +kernel
theorem dX10_helps_21 : decode cX10_helps 21 = .ok (.istore_n 1, 1) := by decide +kernel
theorem dX10_helps_22 : decode cX10_helps 22 = .ok (.aload_n 0, 1) := by decide +kernel
theorem dX10_helps_23 : decode cX10_helps 23 = .ok (.getfield 337, 3) := by decide +kernel
theorem dX10_helps_26 : decode cX10_helps 26 = .ok (.invokestatic 280, 3) := by decide +kernel
theorem dX10_helps_29 : decode cX10_helps 29 = .ok (.istore_n 2, 1) := by decide +kernel
theorem dX10_helps_30 : decode cX10_helps 30 = .ok (.aload_n 0, 1) := by decide +kernel
theorem dX10_helps_31 : decode cX10_helps 31 = .ok (.iconst 1, 1) := by decide +kernel
theorem dX10_helps_32 : decode cX10_helps 32 = .ok (.invokevirtual 328, 3) := by decide +kernel
theorem dX10_helps_35 : decode cX10_helps 35 = .ok (.aload_n 0, 1) := by decide +kernel
theorem dX10_helps_36 : decode cX10_helps 36 = .ok (.aload_n 0, 1) := by decide +kernel
theorem dX10_helps_37 : decode cX10_helps 37 = .ok (.getfield 337, 3) := by decide +kernel
theorem dX10_helps_40 : decode cX10_helps 40 = .ok (.invokevirtual 346, 3) := by decide +kernel
theorem dX10_helps_43 : decode cX10_helps 43 = .ok (.invokestatic 280, 3) := by decide +kernel
theorem dX10_helps_46 : decode cX10_helps 46 = .ok (.istore_n 3, 1) := by decide +kernel
theorem dX10_helps_47 : decode cX10_helps 47 = .ok (.aload_n 0, 1) := by decide +kernel
theorem dX10_helps_48 : decode cX10_helps 48 = .ok (.iconst 0, 1) := by decide +kernel
theorem dX10_helps_49 : decode cX10_helps 49 = .ok (.putfield 91, 3) := by decide +kernel
theorem dX10_helps_52 : decode cX10_helps 52 = .ok (.aload_n 0, 1) := by decide +kernel
theorem dX10_helps_53 : decode cX10_helps 53 = .ok (.iload_n 2, 1) := by decide +kernel
theorem dX10_helps_54 : decode cX10_helps 54 = .ok (.invokevirtual 322, 3) := by decide +kernel
theorem dX10_helps_57 : decode cX10_helps 57 = .ok (.aload_n 0, 1) := by decide +kernel
theorem dX10_helps_58 : decode cX10_helps 58 = .ok (.aload_n 0, 1) := by decide +kernel
theorem dX10_helps_59 : decode cX10_helps 59 = .ok (.getfield 337, 3) := by decide +kernel
theorem dX10_helps_62 : decode cX10_helps 62 = .ok (.invokestatic 280, 3) := by decide +kernel
theorem dX10_helps_65 : decode cX10_helps 65 = .ok (.invokevirtual 322, 3) := by decide +kernel
theorem dX10_helps_68 : decode cX10_helps 68 = .ok (.iload_n 1, 1) := by decide +kernel
theorem dX10_helps_69 : decode cX10_helps 69 = .ok (.iload_n 3, 1) := by decide +kernel
theorem dX10_helps_70 : decode cX10_helps 70 = .ok (.isub, 1) := by decide +kernel
theorem dX10_helps_71 : decode cX10_helps 71 = .ok (.ireturn, 1) := by decide +kernel
theorem dX10_hooked_0 : decode cX10_hooked 0 = .ok (.aload_n 0, 1) := by decide +kernel
theorem dX10_hooked_1 : decode cX10_hooked 1 = .ok (.iconst 0, 1) := by decide +kernel
theorem dX10_hooked_2 : decode cX10_hooked 2 = .ok (.putfield 87, 3) := by decide +kernel
theorem dX10_hooked_5 : decode cX10_hooked 5 = .ok (.aload_n 0, 1) := by decide +kernel
theorem dX10_hooked_6 : decode cX10_hooked 6 = .ok (.invokevirtual 349, 3) := by decide +kernel
theorem dX10_hooked_9 : decode cX10_hooked 9 = .ok (.aload_n 0, 1) := by decide +kernel
theorem dX10_hooked_10 : decode cX10_hooked 10 = .ok (.aload_n 0, 1) := by decide +kernel
theorem dX10_hooked_11 : decode cX10_hooked 11 = .ok (.getfield 9, 3) := by decide +kernel
theorem dX10_hooked_14 : decode cX10_hooked 14 = .ok (.iconst 0, 1) := by decide +kernel
theorem dX10_hooked_15 : decode cX10_hooked 15 = .ok (.invokevirtual 244, 3) := by decide +kernel
theorem dX10_hooked_18 : decode cX10_hooked 18 = .ok (.aload_n 0, 1) := by decide +kernel
theorem dX10_hooked_19 : decode cX10_hooked 19 = .ok (.aload_n 0, 1) := by decide +kernel
theorem dX10_hooked_20 : decode cX10_hooked 20 = .ok (.getfield 9, 3) := by decide +kernel
theorem dX10_hooked_23 : decode cX10_hooked 23 = .ok (.bipush 19, 2) := by decide +kernel
theorem dX10_hooked_25 : decode cX10_hooked 25 = .ok (.iaload, 1) := by decide +kernel
theorem dX10_hooked_26 : decode cX10_hooked 26 = .ok (.invokevirtual 301, 3) := by decide +kernel
theorem dX10_hooked_29 : decode cX10_hooked 29 = .ok (.iand, 1) := by decide +kernel
theorem dX10_hooked_30 : decode cX10_hooked 30 = .ok (.aload_n 0, 1) := by decide +kernel
theorem dX10_hooked_31 : decode cX10_hooked 31 = .ok (.aload_n 0, 1) := by decide +kernel
theorem dX10_hooked_32 : decode cX10_hooked 32 = .ok (.invokevirtual 331, 3) := by decide +kernel
theorem dX10_hooked_35 : decode cX10_hooked 35 = .ok (.invokevirtual 334, 3) := by decide +kernel
theorem dX10_hooked_38 : decode cX10_hooked 38 = .ok (.iconst (-1), 1) := by decide +kernel
theorem dX10_hooked_39 : decode cX10_hooked 39 = .ok (.ixor, 1) := by decide +kernel
theorem dX10_hooked_40 : decode cX10_hooked 40 = .ok (.iand, 1) := by decide +kernel
theorem dX10_hooked_41 : decode cX10_hooked 41 = .ok (.istore_n 1, 1) := by decide +kernel
theorem dX10_hooked_42 : decode cX10_hooked 42 = .ok (.iconst 0, 1) := by decide +kernel
theorem dX10_hooked_43 : decode cX10_hooked 43 = .ok (.istore_n 2, 1) := by decide +kernel
theorem dX10_hooked_44 : decode cX10_hooked 44 = .ok (.iconst (-1), 1) := by decide +kernel
theorem dX10_hooked_45 : decode cX10_hooked 45 = .ok (.istore_n 3, 1) := by decide +kernel
theorem dX10_hooked_46 : decode cX10_hooked 46 = .ok (.iconst 0, 1) := by decide +kernel
theorem dX10_hooked_47 : decode cX10_hooked 47 = .ok (.istore 4, 2) := by decide +kernel
theorem dX10_hooked_49 : decode cX10_hooked 49 = .ok (.iconst 0, 1) := by decide +kernel
theorem dX10_hooked_50 : decode cX10_hooked 50 = .ok (.istore 5, 2) := by decide +kernel
theorem dX10_hooked_52 : decode cX10_hooked 52 = .ok (.iload 5, 2) := by decide +kernel
theorem dX10_hooked_54 : decode cX10_hooked 54 = .ok (.aload_n 0, 1) := by decide +kernel
theorem dX10_hooked_55 : decode cX10_hooked 55 = .ok (.getfield 101, 3) := by decide +kernel
theorem dX10_hooked_58 : decode cX10_hooked 58 = .ok (.if_icmp .ge 55, 3) := by decide +kernel
theorem dX10_hooked_61 : decode cX10_hooked 61 = .ok (.iload_n 1, 1) := by decide +kernel
theorem dX10_hooked_62 : decode cX10_hooked 62 = .ok (.aload_n 0, 1) := by decide +kernel
theorem dX10_hooked_63 : decode cX10_hooked 63 = .ok (.iload 5, 2) := by decide +kernel
theorem dX10_hooked_65 : decode cX10_hooked 65 = .ok (.aload_n 0, 1) := by decide +kernel
theorem dX10_hooked_66 : decode cX10_hooked 66 = .ok (.getfield 9, 3) := by decide +kernel
theorem dX10_hooked_69 : decode cX10_hooked 69 = .ok (.bipush 18, 2) := by decide +kernel
theorem dX10_hooked_71 : decode cX10_hooked 71 = .ok (.iaload, 1) := by decide +kernel
theorem dX10_hooked_72 : decode cX10_hooked 72 = .ok (.iconst 1, 1) := by decide +kernel
theorem dX10_hooked_73 : decode cX10_hooked 73 = .ok (.invokevirtual 220, 3) := by decide +kernel
theorem dX10_hooked_76 : decode cX10_hooked 76 = .ok (.iand, 1) := by decide +kernel
theorem dX10_hooked_77 : decode cX10_hooked 77 = .ok (.istore 6, 2) := by decide +kernel
theorem dX10_hooked_79 : decode cX10_hooked 79 = .ok (.iload_n 2, 1) := by decide +kernel
theorem dX10_hooked_80 : decode cX10_hooked 80 = .ok (.iload 6, 2) := by decide +kernel
theorem dX10_hooked_82 : decode cX10_hooked 82 = .ok (.ior, 1) := by decide +kernel
theorem dX10_hooked_83 : decode cX10_hooked 83 = .ok (.istore_n 2, 1) := by decide +kernel
theorem dX10_hooked_84 : decode cX10_hooked 84 = .ok (.iload 6, 2) := by decide +kernel
theorem dX10_hooked_86 : decode cX10_hooked 86 = .ok (.invokestatic 280, 3) := by decide +kernel
theorem dX10_hooked_89 : decode cX10_hooked 89 = .ok (.iload 4, 2) := by decide +kernel
theorem dX10_hooked_91 : decode cX10_hooked 91 = .ok (.if_icmp .gt 6, 3) := by decide +kernel
theorem dX10_hooked_94 : decode cX10_hooked 94 = .ok (.goto 13, 3) := by decide +kernel
theorem dX10_hooked_97 : decode cX10_hooked 97 = .ok (.iload 5, 2) := by decide +kernel
theorem dX10_hooked_99 : decode cX10_hooked 99 = .ok (.istore_n 3, 1) := by decide +kernel
theorem dX10_hooked_100 : decode cX10_hooked 100 = .ok (.iload 6, 2) := by decide +kernel
theorem dX10_hooked_102 : decode cX10_hooked 102 = .ok (.invokestatic 280, 3) := by decide +kernel
theorem dX10_hooked_105 : decode cX10_hooked 105 = .ok (.istore 4, 2) := by decide +kernel
theorem dX10_hooked_107 : decode cX10_hooked 107 = .ok (.iinc 5 1, 3) := by decide +kernel
theorem dX10_hooked_110 : decode cX10_hooked 110 = .ok (.goto (-58), 3) := by decide +kernel
theorem dX10_hooked_113 : decode cX10_hooked 113 = .ok (.aload_n 0, 1) := by decide +kernel
theorem dX10_hooked_114 : decode cX10_hooked 114 = .ok (.iconst 0, 1) := by decide +kernel
theorem dX10_hooked_115 : decode cX10_hooked 115 = .ok (.putfield 91, 3) := by decide +kernel
theorem dX10_hooked_118 : decode cX10_hooked 118 = .ok (.aload_n 0, 1) := by decide +kernel
theorem dX10_hooked_119 : decode cX10_hooked 119 = .ok (.iload_n 3, 1) := by decide +kernel
theorem dX10_hooked_120 : decode cX10_hooked 120 = .ok (.invokevirtual 322, 3) := by decide +kernel
theorem dX10_hooked_123 : decode cX10_hooked 123 = .ok (.aload_n 0, 1) := by decide +kernel
theorem dX10_hooked_124 : decode cX10_hooked 124 = .ok (.iload 4, 2) := by decide +kernel
theorem dX10_hooked_126 : decode cX10_hooked 126 = .ok (.invokevirtual 322, 3) := by decide +kernel
theorem dX10_hooked_129 : decode cX10_hooked 129 = .ok (.iload_n 2, 1) := by decide +kernel
theorem dX10_hooked_130 : decode cX10_hooked 130 = .ok (.ireturn, 1) := by decide +kernel
theorem dX10_broken_0 : decode cX10_broken 0 = .ok (.aload_n 0, 1) := by decide +kernel
theorem dX10_broken_1 : decode cX10_broken 1 = .ok (.iconst 0, 1) := by decide +kernel
theorem dX10_broken_2 : decode cX10_broken 2 = .ok (.putfield 87, 3) := by decide +kernel
theorem dX10_broken_5 : decode cX10_broken 5 = .ok (.aload_n 0, 1) := by decide +kernel
theorem dX10_broken_6 : decode cX10_broken 6 = .ok (.iload_n 1, 1) := by decide +kernel
theorem dX10_broken_7 : decode cX10_broken 7 = .ok (.invokevirtual 251, 3) := by decide +kernel
theorem dX10_broken_10 : decode cX10_broken 10 = .ok (.ifCond .ne 5, 3) := by decide +kernel
theorem dX10_broken_13 : decode cX10_broken 13 = .ok (.iconst (-1), 1) := by decide +kernel
theorem dX10_broken_14 : decode cX10_broken 14 = .ok (.ireturn, 1) := by decide +kernel
theorem dX10_broken_15 : decode cX10_broken 15 = .ok (.aload_n 0, 1) := by decide +kernel
theorem dX10_broken_16 : decode cX10_broken 16 = .ok (.invokevirtual 349, 3) := by decide +kernel
theorem dX10_broken_19 : decode cX10_broken 19 = .ok (.aload_n 0, 1) := by decide +kernel
theorem dX10_broken_20 : decode cX10_broken 20 = .ok (.getfield 59, 3) := by decide +kernel
theorem dX10_broken_23 : decode cX10_broken 23 = .ok (.iload_n 1, 1) := by decide +kernel
theorem dX10_broken_24 : decode cX10_broken 24 = .ok (.iconst 0, 1) := by decide +kernel
theorem dX10_broken_25 : decode cX10_broken 25 = .ok (.iastore, 1) := by decide +kernel
theorem dX10_broken_26 : decode cX10_broken 26 = .ok (.aload_n 0, 1) := by decide +kernel
theorem dX10_broken_27 : decode cX10_broken 27 = .ok (.getfield 337, 3) := by decide +kernel
theorem dX10_broken_30 : decode cX10_broken 30 = .ok (.aload_n 0, 1) := by decide +kernel
theorem dX10_broken_31 : decode cX10_broken 31 = .ok (.aload_n 0, 1) := by decide +kernel
theorem dX10_broken_32 : decode cX10_broken 32 = .ok (.invokevirtual 331, 3) := by decide +kernel
theorem dX10_broken_35 : decode cX10_broken 35 = .ok (.invokevirtual 334, 3) := by decide +kernel
theorem dX10_broken_38 : decode cX10_broken 38 = .ok (.iand, 1) := by decide +kernel
theorem dX10_broken_39 : decode cX10_broken 39 = .ok (.istore_n 2, 1) := by decide +kernel
theorem dX10_broken_40 : decode cX10_broken 40 = .ok (.aload_n 0, 1) := by decide +kernel
theorem dX10_broken_41 : decode cX10_broken 41 = .ok (.iload_n 2, 1) := by decide +kernel
theorem dX10_broken_42 : decode cX10_broken 42 = .ok (.invokevirtual 346, 3) := by decide +kernel
theorem dX10_broken_45 : decode cX10_broken 45 = .ok (.invokestatic 280, 3) := by decide +kernel
theorem dX10_broken_48 : decode cX10_broken 48 = .ok (.istore_n 3, 1) := by decide +kernel
theorem dX10_broken_49 : decode cX10_broken 49 = .ok (.aload_n 0, 1) := by decide +kernel
theorem dX10_broken_50 : decode cX10_broken 50 = .ok (.iconst 0, 1) := by decide +kernel
theorem dX10_broken_51 : decode cX10_broken 51 = .ok (.putfield 91, 3) := by decide +kernel
theorem dX10_broken_54 : decode cX10_broken 54 = .ok (.aload_n 0, 1) := by decide +kernel
theorem dX10_broken_55 : decode cX10_broken 55 = .ok (.aload_n 0, 1) := by decide +kernel
theorem dX10_broken_56 : decode cX10_broken 56 = .ok (.getfield 337, 3) := by decide +kernel
theorem dX10_broken_59 : decode cX10_broken 59 = .ok (.iload_n 2, 1) := by decide +kernel
theorem dX10_broken_60 : decode cX10_broken 60 = .ok (.iconst (-1), 1) := by decide +kernel
theorem dX10_broken_61 : decode cX10_broken 61 = .ok (.ixor, 1) := by decide +kernel
theorem dX10_broken_62 : decode cX10_broken 62 = .ok (.iand, 1) := by decide +kernel
theorem dX10_broken_63 : decode cX10_broken 63 = .ok (.invokevirtual 322, 3) := by decide +kernel
theorem dX10_broken_66 : decode cX10_broken 66 = .ok (.iload_n 3, 1) := by decide +kernel
theorem dX10_broken_67 : decode cX10_broken 67 = .ok (.ireturn, 1) := by decide +kernel
theorem dX10_sweep_0 : decode cX10_sweep 0 = .ok (.aload_n 0, 1) := by decide +kernel
theorem dX10_sweep_1 : decode cX10_sweep 1 = .ok (.iconst 0, 1) := by decide +kernel
theorem dX10_sweep_2 : decode cX10_sweep 2 = .ok (.putfield 87, 3) := by decide +kernel
theorem dX10_sweep_5 : decode cX10_sweep 5 = .ok (.iload_n 1, 1) := by decide +kernel
theorem dX10_sweep_6 : decode cX10_sweep 6 = .ok (.iconst 0, 1) := by decide +kernel
theorem dX10_sweep_7 : decode cX10_sweep 7 = .ok (.sipush 9999, 3) := by decide +kernel
theorem dX10_sweep_10 : decode cX10_sweep 10 = .ok (.invokestatic 97, 3) := by decide +kernel
theorem dX10_sweep_13 : decode cX10_sweep 13 = .ok (.ifCond .ne 5, 3) := by decide +kernel
theorem dX10_sweep_16 : decode cX10_sweep 16 = .ok (.iconst (-1), 1) := by decide +kernel
theorem dX10_sweep_17 : decode cX10_sweep 17 = .ok (.ireturn, 1) := by decide +kernel
theorem dX10_sweep_18 : decode cX10_sweep 18 = .ok (.aload_n 0, 1) := by decide +kernel
theorem dX10_sweep_19 : decode cX10_sweep 19 = .ok (.invokevirtual 349, 3) := by decide +kernel
theorem dX10_sweep_22 : decode cX10_sweep 22 = .ok (.aload_n 0, 1) := by decide +kernel
theorem dX10_sweep_23 : decode cX10_sweep 23 = .ok (.invokevirtual 364, 3) := by decide +kernel
theorem dX10_sweep_26 : decode cX10_sweep 26 = .ok (.aload_n 0, 1) := by decide +kernel
theorem dX10_sweep_27 : decode cX10_sweep 27 = .ok (.invokevirtual 382, 3) := by decide +kernel
theorem dX10_sweep_30 : decode cX10_sweep 30 = .ok (.iconst (-1), 1) := by decide +kernel
theorem dX10_sweep_31 : decode cX10_sweep 31 = .ok (.istore_n 2, 1) := by decide +kernel
theorem dX10_sweep_32 : decode cX10_sweep 32 = .ok (.iconst (-1), 1) := by decide +kernel
theorem dX10_sweep_33 : decode cX10_sweep 33 = .ok (.istore_n 3, 1) := by decide +kernel
theorem dX10_sweep_34 : decode cX10_sweep 34 = .ok (.iconst 0, 1) := by decide +kernel
theorem dX10_sweep_35 : decode cX10_sweep 35 = .ok (.istore 4, 2) := by decide +kernel
theorem dX10_sweep_37 : decode cX10_sweep 37 = .ok (.iconst 0, 1) := by decide +kernel
theorem dX10_sweep_38 : decode cX10_sweep 38 = .ok (.istore 5, 2) := by decide +kernel
theorem dX10_sweep_40 : decode cX10_sweep 40 = .ok (.iload 5, 2) := by decide +kernel
theorem dX10_sweep_42 : decode cX10_sweep 42 = .ok (.aload_n 0, 1) := by decide +kernel
theorem dX10_sweep_43 : decode cX10_sweep 43 = .ok (.invokevirtual 331, 3) := by decide +kernel
theorem dX10_sweep_46 : decode cX10_sweep 46 = .ok (.if_icmp .gt 82, 3) := by decide +kernel
theorem dX10_sweep_49 : decode cX10_sweep 49 = .ok (.aload_n 0, 1) := by decide +kernel
theorem dX10_sweep_50 : decode cX10_sweep 50 = .ok (.iload 5, 2) := by decide +kernel
theorem dX10_sweep_52 : decode cX10_sweep 52 = .ok (.invokevirtual 385, 3) := by decide +kernel
theorem dX10_sweep_55 : decode cX10_sweep 55 = .ok (.istore 6, 2) := by decide +kernel
theorem dX10_sweep_57 : decode cX10_sweep 57 = .ok (.iload 6, 2) := by decide +kernel
theorem dX10_sweep_59 : decode cX10_sweep 59 = .ok (.iload_n 1, 1) := by decide +kernel
theorem dX10_sweep_60 : decode cX10_sweep 60 = .ok (.if_icmp .le 6, 3) := by decide +kernel
theorem dX10_sweep_63 : decode cX10_sweep 63 = .ok (.goto 59, 3) := by decide +kernel
theorem dX10_sweep_66 : decode cX10_sweep 66 = .ok (.aload_n 0, 1) := by decide +kernel
theorem dX10_sweep_67 : decode cX10_sweep 67 = .ok (.aload_n 0, 1) := by decide +kernel
theorem dX10_sweep_68 : decode cX10_sweep 68 = .ok (.getfield 337, 3) := by decide +kernel
theorem dX10_sweep_71 : decode cX10_sweep 71 = .ok (.aload_n 0, 1) := by decide +kernel
theorem dX10_sweep_72 : decode cX10_sweep 72 = .ok (.iload 5, 2) := by decide +kernel
theorem dX10_sweep_74 : decode cX10_sweep 74 = .ok (.invokevirtual 334, 3) := by decide +kernel
theorem dX10_sweep_77 : decode cX10_sweep 77 = .ok (.iand, 1) := by decide +kernel
theorem dX10_sweep_78 : decode cX10_sweep 78 = .ok (.aload_n 0, 1) := by decide +kernel
theorem dX10_sweep_79 : decode cX10_sweep 79 = .ok (.getfield 9, 3) := by decide +kernel
theorem dX10_sweep_82 : decode cX10_sweep 82 = .ok (.bipush 16, 2) := by decide +kernel
