theorem dX10_gentle_105 : decode cX10_gentle 105 = .ok (.iconst (-1), 1) := by decide +kernel
theorem dX10_gentle_106 : decode cX10_gentle 106 = .ok (.ixor, 1) := by decide +kernel
theorem dX10_gentle_107 : decode cX10_gentle 107 = .ok (.iand, 1) := by decide +kernel
theorem dX10_gentle_108 : decode cX10_gentle 108 = .ok (.istore_n 2, 1) := by decide +kernel
theorem dX10_gentle_109 : decode cX10_gentle 109 = .ok (.iconst 1, 1) := by decide +kernel
theorem dX10_gentle_110 : decode cX10_gentle 110 = .ok (.istore_n 3, 1) := by decide +kernel
theorem dX10_gentle_111 : decode cX10_gentle 111 = .ok (.iinc 4 1, 3) := by decide +kernel
theorem dX10_gentle_114 : decode cX10_gentle 114 = .ok (.goto (-64), 3) := by decide +kernel
theorem dX10_gentle_117 : decode cX10_gentle 117 = .ok (.goto (-76), 3) := by decide +kernel
theorem dX10_gentle_120 : decode cX10_gentle 120 = .ok (.aload_n 0, 1) := by decide +kernel
theorem dX10_gentle_121 : decode cX10_gentle 121 = .ok (.getfield 91, 3) := by decide +kernel
theorem dX10_gentle_124 : decode cX10_gentle 124 = .ok (.ireturn, 1) := by decide +kernel
theorem dX10_harm_0 : decode cX10_harm 0 = .ok (.aload_n 0, 1) := by decide +kernel
theorem dX10_harm_1 : decode cX10_harm 1 = .ok (.iconst 0, 1) := by decide +kernel
theorem dX10_harm_2 : decode cX10_harm 2 = .ok (.putfield 87, 3) := by decide +kernel
theorem dX10_harm_5 : decode cX10_harm 5 = .ok (.aload_n 0, 1) := by decide +kernel
theorem dX10_harm_6 : decode cX10_harm 6 = .ok (.getfield 9, 3) := by decide +kernel
theorem dX10_harm_9 : decode cX10_harm 9 = .ok (.bipush 17, 2) := by decide +kernel
theorem dX10_harm_11 : decode cX10_harm 11 = .ok (.iaload, 1) := by decide +kernel
theorem dX10_harm_12 : decode cX10_harm 12 = .ok (.iconst (-1), 1) := by decide +kernel
theorem dX10_harm_13 : decode cX10_harm 13 = .ok (.if_icmp .ne 6, 3) := by decide +kernel
theorem dX10_harm_16 : decode cX10_harm 16 = .ok (.bipush (-2), 2) := by decide +kernel
theorem dX10_harm_18 : decode cX10_harm 18 = .ok (.ireturn, 1) := by decide +kernel
theorem dX10_harm_19 : decode cX10_harm 19 = .ok (.aload_n 0, 1) := by decide +kernel
theorem dX10_harm_20 : decode cX10_harm 20 = .ok (.invokevirtual 388, 3) := by decide +kernel
theorem dX10_harm_23 : decode cX10_harm 23 = .ok (.istore_n 1, 1) := by decide +kernel
theorem dX10_harm_24 : decode cX10_harm 24 = .ok (.aload_n 0, 1) := by decide +kernel
theorem dX10_harm_25 : decode cX10_harm 25 = .ok (.aload_n 0, 1) := by decide +kernel
theorem dX10_harm_26 : decode cX10_harm 26 = .ok (.getfield 9, 3) := by decide +kernel
theorem dX10_harm_29 : decode cX10_harm 29 = .ok (.iconst 0, 1) := by decide +kernel
theorem dX10_harm_30 : decode cX10_harm 30 = .ok (.invokevirtual 244, 3) := by decide +kernel
theorem dX10_harm_33 : decode cX10_harm 33 = .ok (.istore_n 2, 1) := by decide +kernel
theorem dX10_harm_34 : decode cX10_harm 34 = .ok (.iconst 0, 1) := by decide +kernel
theorem dX10_harm_35 : decode cX10_harm 35 = .ok (.istore_n 3, 1) := by decide +kernel
theorem dX10_harm_36 : decode cX10_harm 36 = .ok (.iconst 0, 1) := by decide +kernel
theorem dX10_harm_37 : decode cX10_harm 37 = .ok (.istore 4, 2) := by decide +kernel
theorem dX10_harm_39 : decode cX10_harm 39 = .ok (.iload 4, 2) := by decide +kernel
theorem dX10_harm_41 : decode cX10_harm 41 = .ok (.aload_n 0, 1) := by decide +kernel
theorem dX10_harm_42 : decode cX10_harm 42 = .ok (.getfield 94, 3) := by decide +kernel
theorem dX10_harm_45 : decode cX10_harm 45 = .ok (.if_icmp .ge 40, 3) := by decide +kernel
theorem dX10_harm_48 : decode cX10_harm 48 = .ok (.iload_n 1, 1) := by decide +kernel
theorem dX10_harm_49 : decode cX10_harm 49 = .ok (.iload 4, 2) := by decide +kernel
theorem dX10_harm_51 : decode cX10_harm 51 = .ok (.invokestatic 227, 3) := by decide +kernel
theorem dX10_harm_54 : decode cX10_harm 54 = .ok (.ifCond .ne 6, 3) := by decide +kernel
theorem dX10_harm_57 : decode cX10_harm 57 = .ok (.goto 22, 3) := by decide +kernel
theorem dX10_harm_60 : decode cX10_harm 60 = .ok (.iload_n 3, 1) := by decide +kernel
theorem dX10_harm_61 : decode cX10_harm 61 = .ok (.aload_n 0, 1) := by decide +kernel
theorem dX10_harm_62 : decode cX10_harm 62 = .ok (.iload 4, 2) := by decide +kernel
theorem dX10_harm_64 : decode cX10_harm 64 = .ok (.iload_n 2, 1) := by decide +kernel
theorem dX10_harm_65 : decode cX10_harm 65 = .ok (.invokevirtual 248, 3) := by decide +kernel
theorem dX10_harm_68 : decode cX10_harm 68 = .ok (.ior, 1) := by decide +kernel
theorem dX10_harm_69 : decode cX10_harm 69 = .ok (.istore_n 3, 1) := by decide +kernel
theorem dX10_harm_70 : decode cX10_harm 70 = .ok (.iload_n 2, 1) := by decide +kernel
theorem dX10_harm_71 : decode cX10_harm 71 = .ok (.iconst 1, 1) := by decide +kernel
theorem dX10_harm_72 : decode cX10_harm 72 = .ok (.iload 4, 2) := by decide +kernel
theorem dX10_harm_74 : decode cX10_harm 74 = .ok (.ishl, 1) := by decide +kernel
theorem dX10_harm_75 : decode cX10_harm 75 = .ok (.iconst (-1), 1) := by decide +kernel
theorem dX10_harm_76 : decode cX10_harm 76 = .ok (.ixor, 1) := by decide +kernel
theorem dX10_harm_77 : decode cX10_harm 77 = .ok (.iand, 1) := by decide +kernel
theorem dX10_harm_78 : decode cX10_harm 78 = .ok (.istore_n 2, 1) := by decide +kernel
theorem dX10_harm_79 : decode cX10_harm 79 = .ok (.iinc 4 1, 3) := by decide +kernel
theorem dX10_harm_82 : decode cX10_harm 82 = .ok (.goto (-43), 3) := by decide +kernel
theorem dX10_harm_85 : decode cX10_harm 85 = .ok (.iload_n 3, 1) := by decide +kernel
theorem dX10_harm_86 : decode cX10_harm 86 = .ok (.aload_n 0, 1) := by decide +kernel
theorem dX10_harm_87 : decode cX10_harm 87 = .ok (.getfield 9, 3) := by decide +kernel
theorem dX10_harm_90 : decode cX10_harm 90 = .ok (.bipush 16, 2) := by decide +kernel
theorem dX10_harm_92 : decode cX10_harm 92 = .ok (.iaload, 1) := by decide +kernel
theorem dX10_harm_93 : decode cX10_harm 93 = .ok (.iconst (-1), 1) := by decide +kernel
theorem dX10_harm_94 : decode cX10_harm 94 = .ok (.ixor, 1) := by decide +kernel
theorem dX10_harm_95 : decode cX10_harm 95 = .ok (.iand, 1) := by decide +kernel
theorem dX10_harm_96 : decode cX10_harm 96 = .ok (.istore_n 3, 1) := by decide +kernel
theorem dX10_harm_97 : decode cX10_harm 97 = .ok (.aload_n 0, 1) := by decide +kernel
theorem dX10_harm_98 : decode cX10_harm 98 = .ok (.iconst 0, 1) := by decide +kernel
theorem dX10_harm_99 : decode cX10_harm 99 = .ok (.putfield 91, 3) := by decide +kernel
theorem dX10_harm_102 : decode cX10_harm 102 = .ok (.aload_n 0, 1) := by decide +kernel
theorem dX10_harm_103 : decode cX10_harm 103 = .ok (.aload_n 0, 1) := by decide +kernel
theorem dX10_harm_104 : decode cX10_harm 104 = .ok (.iload_n 3, 1) := by decide +kernel
theorem dX10_harm_105 : decode cX10_harm 105 = .ok (.iconst 0, 1) := by decide +kernel
theorem dX10_harm_106 : decode cX10_harm 106 = .ok (.invokevirtual 325, 3) := by decide +kernel
theorem dX10_harm_109 : decode cX10_harm 109 = .ok (.aload_n 0, 1) := by decide +kernel
theorem dX10_harm_110 : decode cX10_harm 110 = .ok (.iload_n 3, 1) := by decide +kernel
theorem dX10_harm_111 : decode cX10_harm 111 = .ok (.iload_n 3, 1) := by decide +kernel
theorem dX10_harm_112 : decode cX10_harm 112 = .ok (.invokevirtual 325, 3) := by decide +kernel
theorem dX10_harm_115 : decode cX10_harm 115 = .ok (.isub, 1) := by decide +kernel
theorem dX10_harm_116 : decode cX10_harm 116 = .ok (.invokevirtual 322, 3) := by decide +kernel
theorem dX10_harm_119 : decode cX10_harm 119 = .ok (.iload_n 3, 1) := by decide +kernel
theorem dX10_harm_120 : decode cX10_harm 120 = .ok (.ireturn, 1) := by decide +kernel
theorem dX10_loadOf_0 : decode cX10_loadOf 0 = .ok (.iconst 0, 1) := by decide +kernel
theorem dX10_loadOf_1 : decode cX10_loadOf 1 = .ok (.istore_n 2, 1) := by decide +kernel
theorem dX10_loadOf_2 : decode cX10_loadOf 2 = .ok (.iconst 0, 1) := by decide +kernel
theorem dX10_loadOf_3 : decode cX10_loadOf 3 = .ok (.istore_n 3, 1) := by decide +kernel
theorem dX10_loadOf_4 : decode cX10_loadOf 4 = .ok (.iload_n 3, 1) := by decide +kernel
theorem dX10_loadOf_5 : decode cX10_loadOf 5 = .ok (.aload_n 0, 1) := by decide +kernel
theorem dX10_loadOf_6 : decode cX10_loadOf 6 = .ok (.getfield 101, 3) := by decide +kernel
theorem dX10_loadOf_9 : decode cX10_loadOf 9 = .ok (.if_icmp .ge 30, 3) := by decide +kernel
theorem dX10_loadOf_12 : decode cX10_loadOf 12 = .ok (.iload_n 2, 1) := by decide +kernel
theorem dX10_loadOf_13 : decode cX10_loadOf 13 = .ok (.iload_n 1, 1) := by decide +kernel
theorem dX10_loadOf_14 : decode cX10_loadOf 14 = .ok (.iload_n 3, 1) := by decide +kernel
theorem dX10_loadOf_15 : decode cX10_loadOf 15 = .ok (.invokestatic 227, 3) := by decide +kernel
theorem dX10_loadOf_18 : decode cX10_loadOf 18 = .ok (.ifCond .eq 12, 3) := by decide +kernel
theorem dX10_loadOf_21 : decode cX10_loadOf 21 = .ok (.aload_n 0, 1) := by decide +kernel
theorem dX10_loadOf_22 : decode cX10_loadOf 22 = .ok (.getfield 68, 3) := by decide +kernel
theorem dX10_loadOf_25 : decode cX10_loadOf 25 = .ok (.iload_n 3, 1) := by decide +kernel
theorem dX10_loadOf_26 : decode cX10_loadOf 26 = .ok (.iaload, 1) := by decide +kernel
theorem dX10_loadOf_27 : decode cX10_loadOf 27 = .ok (.goto 4, 3) := by decide +kernel
theorem dX10_loadOf_30 : decode cX10_loadOf 30 = .ok (.iconst 0, 1) := by decide +kernel
theorem dX10_loadOf_31 : decode cX10_loadOf 31 = .ok (.iadd, 1) := by decide +kernel
theorem dX10_loadOf_32 : decode cX10_loadOf 32 = .ok (.istore_n 2, 1) := by decide +kernel
theorem dX10_loadOf_33 : decode cX10_loadOf 33 = .ok (.iinc 3 1, 3) := by decide +kernel
theorem dX10_loadOf_36 : decode cX10_loadOf 36 = .ok (.goto (-32), 3) := by decide +kernel
theorem dX10_loadOf_39 : decode cX10_loadOf 39 = .ok (.iload_n 2, 1) := by decide +kernel
theorem dX10_loadOf_40 : decode cX10_loadOf 40 = .ok (.ireturn, 1) := by decide +kernel
theorem dX10_share_0 : decode cX10_share 0 = .ok (.aload_n 0, 1) := by decide +kernel
theorem dX10_share_1 : decode cX10_share 1 = .ok (.iconst 0, 1) := by decide +kernel
theorem dX10_share_2 : decode cX10_share 2 = .ok (.putfield 87, 3) := by decide +kernel
theorem dX10_share_5 : decode cX10_share 5 = .ok (.iload_n 1, 1) := by decide +kernel
theorem dX10_share_6 : decode cX10_share 6 = .ok (.iconst 0, 1) := by decide +kernel
theorem dX10_share_7 : decode cX10_share 7 = .ok (.aload_n 0, 1) := by decide +kernel
theorem dX10_share_8 : decode cX10_share 8 = .ok (.invokevirtual 331, 3) := by decide +kernel
theorem dX10_share_11 : decode cX10_share 11 = .ok (.invokestatic 97, 3) := by decide +kernel
theorem dX10_share_14 : decode cX10_share 14 = .ok (.ifCond .ne 5, 3) := by decide +kernel
theorem dX10_share_17 : decode cX10_share 17 = .ok (.iconst (-1), 1) := by decide +kernel
theorem dX10_share_18 : decode cX10_share 18 = .ok (.ireturn, 1) := by decide +kernel
theorem dX10_share_19 : decode cX10_share 19 = .ok (.aload_n 0, 1) := by decide +kernel
theorem dX10_share_20 : decode cX10_share 20 = .ok (.invokevirtual 349, 3) := by decide +kernel
theorem dX10_share_23 : decode cX10_share 23 = .ok (.iconst 0, 1) := by decide +kernel
theorem dX10_share_24 : decode cX10_share 24 = .ok (.istore_n 2, 1) := by decide +kernel
theorem dX10_share_25 : decode cX10_share 25 = .ok (.iload_n 2, 1) := by decide +kernel
theorem dX10_share_26 : decode cX10_share 26 = .ok (.bipush 8, 2) := by decide +kernel
theorem dX10_share_28 : decode cX10_share 28 = .ok (.if_icmp .ge 16, 3) := by decide +kernel
theorem dX10_share_31 : decode cX10_share 31 = .ok (.aload_n 0, 1) := by decide +kernel
theorem dX10_share_32 : decode cX10_share 32 = .ok (.getfield 68, 3) := by decide +kernel
theorem dX10_share_35 : decode cX10_share 35 = .ok (.iload_n 2, 1) := by decide +kernel
theorem dX10_share_36 : decode cX10_share 36 = .ok (.iconst 0, 1) := by decide +kernel
theorem dX10_share_37 : decode cX10_share 37 = .ok (.iastore, 1) := by decide +kernel
theorem dX10_share_38 : decode cX10_share 38 = .ok (.iinc 2 1, 3) := by decide +kernel
theorem dX10_share_41 : decode cX10_share 41 = .ok (.goto (-16), 3) := by decide +kernel
theorem dX10_share_44 : decode cX10_share 44 = .ok (.iconst 0, 1) := by decide +kernel
theorem dX10_share_45 : decode cX10_share 45 = .ok (.istore_n 2, 1) := by decide +kernel
theorem dX10_share_46 : decode cX10_share 46 = .ok (.iload_n 2, 1) := by decide +kernel
theorem dX10_share_47 : decode cX10_share 47 = .ok (.aload_n 0, 1) := by decide +kernel
theorem dX10_share_48 : decode cX10_share 48 = .ok (.getfield 94, 3) := by decide +kernel
theorem dX10_share_51 : decode cX10_share 51 = .ok (.if_icmp .ge 85, 3) := by decide +kernel
theorem dX10_share_54 : decode cX10_share 54 = .ok (.aload_n 0, 1) := by decide +kernel
theorem dX10_share_55 : decode cX10_share 55 = .ok (.getfield 337, 3) := by decide +kernel
theorem dX10_share_58 : decode cX10_share 58 = .ok (.iload_n 2, 1) := by decide +kernel
theorem dX10_share_59 : decode cX10_share 59 = .ok (.invokestatic 227, 3) := by decide +kernel
theorem dX10_share_62 : decode cX10_share 62 = .ok (.ifCond .ne 6, 3) := by decide +kernel
theorem dX10_share_65 : decode cX10_share 65 = .ok (.goto 65, 3) := by decide +kernel
theorem dX10_share_68 : decode cX10_share 68 = .ok (.iconst 0, 1) := by decide +kernel
theorem dX10_share_69 : decode cX10_share 69 = .ok (.istore_n 3, 1) := by decide +kernel
theorem dX10_share_70 : decode cX10_share 70 = .ok (.iload_n 3, 1) := by decide +kernel
theorem dX10_share_71 : decode cX10_share 71 = .ok (.aload_n 0, 1) := by decide +kernel
theorem dX10_share_72 : decode cX10_share 72 = .ok (.getfield 101, 3) := by decide +kernel
theorem dX10_share_75 : decode cX10_share 75 = .ok (.if_icmp .ge 30, 3) := by decide +kernel
theorem dX10_share_78 : decode cX10_share 78 = .ok (.iload_n 1, 1) := by decide +kernel
theorem dX10_share_79 : decode cX10_share 79 = .ok (.iload_n 3, 1) := by decide +kernel
theorem dX10_share_80 : decode cX10_share 80 = .ok (.invokestatic 227, 3) := by decide +kernel
theorem dX10_share_83 : decode cX10_share 83 = .ok (.ifCond .eq 16, 3) := by decide +kernel
theorem dX10_share_86 : decode cX10_share 86 = .ok (.aload_n 0, 1) := by decide +kernel
theorem dX10_share_87 : decode cX10_share 87 = .ok (.getfield 59, 3) := by decide +kernel
theorem dX10_share_90 : decode cX10_share 90 = .ok (.iload_n 3, 1) := by decide +kernel
theorem dX10_share_91 : decode cX10_share 91 = .ok (.iaload, 1) := by decide +kernel
theorem dX10_share_92 : decode cX10_share 92 = .ok (.iload_n 2, 1) := by decide +kernel
theorem dX10_share_93 : decode cX10_share 93 = .ok (.invokestatic 227, 3) := by decide +kernel
theorem dX10_share_96 : decode cX10_share 96 = .ok (.ifCond .ne 9, 3) := by decide +kernel
theorem dX10_share_99 : decode cX10_share 99 = .ok (.iinc 3 1, 3) := by decide +kernel
theorem dX10_share_102 : decode cX10_share 102 = .ok (.goto (-32), 3) := by decide +kernel
theorem dX10_share_105 : decode cX10_share 105 = .ok (.iload_n 3, 1) := by decide +kernel
theorem dX10_share_106 : decode cX10_share 106 = .ok (.aload_n 0, 1) := by decide +kernel
theorem dX10_share_107 : decode cX10_share 107 = .ok (.getfield 101, 3) := by decide +kernel
theorem dX10_share_110 : decode cX10_share 110 = .ok (.if_icmp .ge 20, 3) := by decide +kernel
theorem dX10_share_113 : decode cX10_share 113 = .ok (.aload_n 0, 1) := by decide +kernel
theorem dX10_share_114 : decode cX10_share 114 = .ok (.getfield 68, 3) := by decide +kernel
theorem dX10_share_117 : decode cX10_share 117 = .ok (.iload_n 3, 1) := by decide +kernel
theorem dX10_share_118 : decode cX10_share 118 = .ok (.dup2, 1) := by decide +kernel
theorem dX10_share_119 : decode cX10_share 119 = .ok (.iaload, 1) := by decide +kernel
theorem dX10_share_120 : decode cX10_share 120 = .ok (.aload_n 0, 1) := by decide +kernel
theorem dX10_share_121 : decode cX10_share 121 = .ok (.iload_n 2, 1) := by decide +kernel
theorem dX10_share_122 : decode cX10_share 122 = .ok (.iload_n 3, 1) := by decide +kernel
theorem dX10_share_123 : decode cX10_share 123 = .ok (.iconst 0, 1) := by decide +kernel
theorem dX10_share_124 : decode cX10_share 124 = .ok (.iconst 0, 1) := by decide +kernel
theorem dX10_share_125 : decode cX10_share 125 = .ok (.invokevirtual 285, 3) := by decide +kernel
theorem dX10_share_128 : decode cX10_share 128 = .ok (.iadd, 1) := by decide +kernel
theorem dX10_share_129 : decode cX10_share 129 = .ok (.iastore, 1) := by decide +kernel
theorem dX10_share_130 : decode cX10_share 130 = .ok (.iinc 2 1, 3) := by decide +kernel
theorem dX10_share_133 : decode cX10_share 133 = .ok (.goto (-87), 3) := by decide +kernel
theorem dX10_share_136 : decode cX10_share 136 = .ok (.iconst 0, 1) := by decide +kernel
theorem dX10_share_137 : decode cX10_share 137 = .ok (.istore_n 2, 1) := by decide +kernel
theorem dX10_share_138 : decode cX10_share 138 = .ok (.ldc_w 360, 3) := by decide +kernel
theorem dX10_share_141 : decode cX10_share 141 = .ok (.istore_n 3, 1) := by decide +kernel
theorem dX10_share_142 : decode cX10_share 142 = .ok (.iconst 0, 1) := by decide +kernel
theorem dX10_share_143 : decode cX10_share 143 = .ok (.istore 4, 2) := by decide +kernel
theorem dX10_share_145 : decode cX10_share 145 = .ok (.iconst 0, 1) := by decide +kernel
theorem dX10_share_146 : decode cX10_share 146 = .ok (.istore 5, 2) := by decide +kernel
theorem dX10_share_148 : decode cX10_share 148 = .ok (.iload 5, 2) := by decide +kernel
theorem dX10_share_150 : decode cX10_share 150 = .ok (.iload_n 1, 1) := by decide +kernel
theorem dX10_share_151 : decode cX10_share 151 = .ok (.if_icmp .gt 70, 3) := by decide +kernel
theorem dX10_share_154 : decode cX10_share 154 = .ok (.iload 5, 2) := by decide +kernel
theorem dX10_share_156 : decode cX10_share 156 = .ok (.iload_n 1, 1) := by decide +kernel
theorem dX10_share_157 : decode cX10_share 157 = .ok (.iconst (-1), 1) := by decide +kernel
theorem dX10_share_158 : decode cX10_share 158 = .ok (.ixor, 1) := by decide +kernel
theorem dX10_share_159 : decode cX10_share 159 = .ok (.iand, 1) := by decide +kernel
theorem dX10_share_160 : decode cX10_share 160 = .ok (.ifCond .eq 6, 3) := by decide +kernel
theorem dX10_share_163 : decode cX10_share 163 = .ok (.goto 52, 3) := by decide +kernel
theorem dX10_share_166 : decode cX10_share 166 = .ok (.aload_n 0, 1) := by decide +kernel
theorem dX10_share_167 : decode cX10_share 167 = .ok (.iload 5, 2) := by decide +kernel
theorem dX10_share_169 : decode cX10_share 169 = .ok (.invokevirtual 391, 3) := by decide +kernel
theorem dX10_share_172 : decode cX10_share 172 = .ok (.istore 6, 2) := by decide +kernel
theorem dX10_share_174 : decode cX10_share 174 = .ok (.aload_n 0, 1) := by decide +kernel
theorem dX10_share_175 : decode cX10_share 175 = .ok (.iload_n 1, 1) := by decide +kernel
theorem dX10_share_176 : decode cX10_share 176 = .ok (.iload 5, 2) := by decide +kernel
theorem dX10_share_178 : decode cX10_share 178 = .ok (.iconst (-1), 1) := by decide +kernel
theorem dX10_share_179 : decode cX10_share 179 = .ok (.ixor, 1) := by decide +kernel
theorem dX10_share_180 : decode cX10_share 180 = .ok (.iand, 1) := by decide +kernel
theorem dX10_share_181 : decode cX10_share 181 = .ok (.invokevirtual 391, 3) := by decide +kernel
theorem dX10_share_184 : decode cX10_share 184 = .ok (.istore 7, 2) := by decide +kernel
theorem dX10_share_186 : decode cX10_share 186 = .ok (.iload 6, 2) := by decide +kernel
theorem dX10_share_188 : decode cX10_share 188 = .ok (.iload 7, 2) := by decide +kernel
theorem dX10_share_190 : decode cX10_share 190 = .ok (.invokestatic 211, 3) := by decide +kernel
theorem dX10_share_193 : decode cX10_share 193 = .ok (.iload_n 3, 1) := by decide +kernel
theorem dX10_share_194 : decode cX10_share 194 = .ok (.if_icmp .lt 6, 3) := by decide +kernel
theorem dX10_share_197 : decode cX10_share 197 = .ok (.goto 18, 3) := by decide +kernel
theorem dX10_share_200 : decode cX10_share 200 = .ok (.iload 5, 2) := by decide +kernel
theorem dX10_share_202 : decode cX10_share 202 = .ok (.istore_n 2, 1) := by decide +kernel
theorem dX10_share_203 : decode cX10_share 203 = .ok (.iload 6, 2) := by decide +kernel
theorem dX10_share_205 : decode cX10_share 205 = .ok (.iload 7, 2) := by decide +kernel
theorem dX10_share_207 : decode cX10_share 207 = .ok (.invokestatic 211, 3) := by decide +kernel
theorem dX10_share_210 : decode cX10_share 210 = .ok (.istore_n 3, 1) := by decide +kernel
theorem dX10_share_211 : decode cX10_share 211 = .ok (.iload 7, 2) := by decide +kernel
theorem dX10_share_213 : decode cX10_share 213 = .ok (.istore 4, 2) := by decide +kernel
theorem dX10_share_215 : decode cX10_share 215 = .ok (.iinc 5 1, 3) := by decide +kernel
theorem dX10_share_218 : decode cX10_share 218 = .ok (.goto (-70), 3) := by decide +kernel
theorem dX10_share_221 : decode cX10_share 221 = .ok (.aload_n 0, 1) := by decide +kernel
theorem dX10_share_222 : decode cX10_share 222 = .ok (.iconst 0, 1) := by decide +kernel
theorem dX10_share_223 : decode cX10_share 223 = .ok (.putfield 91, 3) := by decide +kernel
theorem dX10_share_226 : decode cX10_share 226 = .ok (.aload_n 0, 1) := by decide +kernel
theorem dX10_share_227 : decode cX10_share 227 = .ok (.iload_n 2, 1) := by decide +kernel
theorem dX10_share_228 : decode cX10_share 228 = .ok (.invokevirtual 322, 3) := by decide +kernel
theorem dX10_share_231 : decode cX10_share 231 = .ok (.aload_n 0, 1) := by decide +kernel
theorem dX10_share_232 : decode cX10_share 232 = .ok (.iload 4, 2) := by decide +kernel
theorem dX10_share_234 : decode cX10_share 234 = .ok (.invokevirtual 322, 3) := by decide +kernel
theorem dX10_share_237 : decode cX10_share 237 = .ok (.iload_n 3, 1) := by decide +kernel
theorem dX10_share_238 : decode cX10_share 238 = .ok (.ireturn, 1) := by decide +kernel
theorem dX10_firstRipe_0 : decode cX10_firstRipe 0 = .ok (.aload_n 0, 1) := by decide +kernel
theorem dX10_firstRipe_1 : decode cX10_firstRipe 1 = .ok (.aload_n 0, 1) := by decide +kernel
theorem dX10_firstRipe_2 : decode cX10_firstRipe 2 = .ok (.getfield 9, 3) := by decide +kernel
theorem dX10_firstRipe_5 : decode cX10_firstRipe 5 = .ok (.iconst 0, 1) := by decide +kernel
theorem dX10_firstRipe_6 : decode cX10_firstRipe 6 = .ok (.invokevirtual 244, 3) := by decide +kernel
theorem dX10_firstRipe_9 : decode cX10_firstRipe 9 = .ok (.aload_n 0, 1) := by decide +kernel
theorem dX10_firstRipe_10 : decode cX10_firstRipe 10 = .ok (.iload_n 1, 1) := by decide +kernel
theorem dX10_firstRipe_11 : decode cX10_firstRipe 11 = .ok (.invokevirtual 301, 3) := by decide +kernel
theorem dX10_firstRipe_14 : decode cX10_firstRipe 14 = .ok (.iand, 1) := by decide +kernel
theorem dX10_firstRipe_15 : decode cX10_firstRipe 15 = .ok (.istore_n 2, 1) := by decide +kernel
theorem dX10_firstRipe_16 : decode cX10_firstRipe 16 = .ok (.iload_n 1, 1) := by decide +kernel
theorem dX10_firstRipe_17 : decode cX10_firstRipe 17 = .ok (.aload_n 0, 1) := by decide +kernel
theorem dX10_firstRipe_18 : decode cX10_firstRipe 18 = .ok (.getfield 9, 3) := by decide +kernel
theorem dX10_firstRipe_21 : decode cX10_firstRipe 21 = .ok (.bipush 19, 2) := by decide +kernel
theorem dX10_firstRipe_23 : decode cX10_firstRipe 23 = .ok (.iaload, 1) := by decide +kernel
theorem dX10_firstRipe_24 : decode cX10_firstRipe 24 = .ok (.if_icmp .ne 7, 3) := by decide +kernel
theorem dX10_firstRipe_27 : decode cX10_firstRipe 27 = .ok (.iload_n 2, 1) := by decide +kernel
theorem dX10_firstRipe_28 : decode cX10_firstRipe 28 = .ok (.goto 14, 3) := by decide +kernel
theorem dX10_firstRipe_31 : decode cX10_firstRipe 31 = .ok (.iload_n 2, 1) := by decide +kernel
theorem dX10_firstRipe_32 : decode cX10_firstRipe 32 = .ok (.aload_n 0, 1) := by decide +kernel
theorem dX10_firstRipe_33 : decode cX10_firstRipe 33 = .ok (.iload_n 1, 1) := by decide +kernel
theorem dX10_firstRipe_34 : decode cX10_firstRipe 34 = .ok (.iconst 1, 1) := by decide +kernel
theorem dX10_firstRipe_35 : decode cX10_firstRipe 35 = .ok (.isub, 1) := by decide +kernel
theorem dX10_firstRipe_36 : decode cX10_firstRipe 36 = .ok (.invokevirtual 301, 3) := by decide +kernel
theorem dX10_firstRipe_39 : decode cX10_firstRipe 39 = .ok (.iconst (-1), 1) := by decide +kernel
theorem dX10_firstRipe_40 : decode cX10_firstRipe 40 = .ok (.ixor, 1) := by decide +kernel
theorem dX10_firstRipe_41 : decode cX10_firstRipe 41 = .ok (.iand, 1) := by decide +kernel
theorem dX10_firstRipe_42 : decode cX10_firstRipe 42 = .ok (.ireturn, 1) := by decide +kernel
theorem dX10_ripens_0 : decode cX10_ripens 0 = .ok (.aload_n 0, 1) := by decide +kernel
theorem dX10_ripens_1 : decode cX10_ripens 1 = .ok (.iconst 0, 1) := by decide +kernel
theorem dX10_ripens_2 : decode cX10_ripens 2 = .ok (.putfield 87, 3) := by decide +kernel
theorem dX10_ripens_5 : decode cX10_ripens 5 = .ok (.aload_n 0, 1) := by decide +kernel
theorem dX10_ripens_6 : decode cX10_ripens 6 = .ok (.invokevirtual 349, 3) := by decide +kernel
theorem dX10_ripens_9 : decode cX10_ripens 9 = .ok (.iconst (-1), 1) := by decide +kernel
theorem dX10_ripens_10 : decode cX10_ripens 10 = .ok (.istore_n 1, 1) := by decide +kernel
theorem dX10_ripens_11 : decode cX10_ripens 11 = .ok (.aload_n 0, 1) := by decide +kernel
theorem dX10_ripens_12 : decode cX10_ripens 12 = .ok (.getfield 9, 3) := by decide +kernel
theorem dX10_ripens_15 : decode cX10_ripens 15 = .ok (.bipush 19, 2) := by decide +kernel
theorem dX10_ripens_17 : decode cX10_ripens 17 = .ok (.iaload, 1) := by decide +kernel
theorem dX10_ripens_18 : decode cX10_ripens 18 = .ok (.istore_n 2, 1) := by decide +kernel
theorem dX10_ripens_19 : decode cX10_ripens 19 = .ok (.aload_n 0, 1) := by decide +kernel
theorem dX10_ripens_20 : decode cX10_ripens 20 = .ok (.getfield 9, 3) := by decide +kernel
theorem dX10_ripens_23 : decode cX10_ripens 23 = .ok (.bipush 19, 2) := by decide +kernel
theorem dX10_ripens_25 : decode cX10_ripens 25 = .ok (.iaload, 1) := by decide +kernel
theorem dX10_ripens_26 : decode cX10_ripens 26 = .ok (.istore_n 3, 1) := by decide +kernel
theorem dX10_ripens_27 : decode cX10_ripens 27 = .ok (.iload_n 3, 1) := by decide +kernel
theorem dX10_ripens_28 : decode cX10_ripens 28 = .ok (.bipush 9, 2) := by decide +kernel
theorem dX10_ripens_30 : decode cX10_ripens 30 = .ok (.if_icmp .gt 33, 3) := by decide +kernel
theorem dX10_ripens_33 : decode cX10_ripens 33 = .ok (.aload_n 0, 1) := by decide +kernel
theorem dX10_ripens_34 : decode cX10_ripens 34 = .ok (.iload_n 3, 1) := by decide +kernel
theorem dX10_ripens_35 : decode cX10_ripens 35 = .ok (.invokevirtual 394, 3) := by decide +kernel
theorem dX10_ripens_38 : decode cX10_ripens 38 = .ok (.invokestatic 280, 3) := by decide +kernel
theorem dX10_ripens_41 : decode cX10_ripens 41 = .ok (.istore 4, 2) := by decide +kernel
theorem dX10_ripens_43 : decode cX10_ripens 43 = .ok (.iload 4, 2) := by decide +kernel
theorem dX10_ripens_45 : decode cX10_ripens 45 = .ok (.iload_n 1, 1) := by decide +kernel
theorem dX10_ripens_46 : decode cX10_ripens 46 = .ok (.if_icmp .gt 6, 3) := by decide +kernel
theorem dX10_ripens_49 : decode cX10_ripens 49 = .ok (.goto 8, 3) := by decide +kernel
theorem dX10_ripens_52 : decode cX10_ripens 52 = .ok (.iload 4, 2) := by decide +kernel
theorem dX10_ripens_54 : decode cX10_ripens 54 = .ok (.istore_n 1, 1) := by decide +kernel
theorem dX10_ripens_55 : decode cX10_ripens 55 = .ok (.iload_n 3, 1) := by decide +kernel
theorem dX10_ripens_56 : decode cX10_ripens 56 = .ok (.istore_n 2, 1) := by decide +kernel
theorem dX10_ripens_57 : decode cX10_ripens 57 = .ok (.iinc 3 1, 3) := by decide +kernel
theorem dX10_ripens_60 : decode cX10_ripens 60 = .ok (.goto (-33), 3) := by decide +kernel
theorem dX10_ripens_63 : decode cX10_ripens 63 = .ok (.aload_n 0, 1) := by decide +kernel
theorem dX10_ripens_64 : decode cX10_ripens 64 = .ok (.aload_n 0, 1) := by decide +kernel
theorem dX10_ripens_65 : decode cX10_ripens 65 = .ok (.aload_n 0, 1) := by decide +kernel
theorem dX10_ripens_66 : decode cX10_ripens 66 = .ok (.getfield 9, 3) := by decide +kernel
theorem dX10_ripens_69 : decode cX10_ripens 69 = .ok (.iconst 0, 1) := by decide +kernel
theorem dX10_ripens_70 : decode cX10_ripens 70 = .ok (.invokevirtual 244, 3) := by decide +kernel
theorem dX10_ripens_73 : decode cX10_ripens 73 = .ok (.aload_n 0, 1) := by decide +kernel
theorem dX10_ripens_74 : decode cX10_ripens 74 = .ok (.aload_n 0, 1) := by decide +kernel
theorem dX10_ripens_75 : decode cX10_ripens 75 = .ok (.invokevirtual 331, 3) := by decide +kernel
theorem dX10_ripens_78 : decode cX10_ripens 78 = .ok (.invokevirtual 334, 3) := by decide +kernel
theorem dX10_ripens_81 : decode cX10_ripens 81 = .ok (.iand, 1) := by decide +kernel
theorem dX10_ripens_82 : decode cX10_ripens 82 = .ok (.invokevirtual 346, 3) := by decide +kernel
theorem dX10_ripens_85 : decode cX10_ripens 85 = .ok (.istore_n 3, 1) := by decide +kernel
theorem dX10_ripens_86 : decode cX10_ripens 86 = .ok (.aload_n 0, 1) := by decide +kernel
theorem dX10_ripens_87 : decode cX10_ripens 87 = .ok (.iconst 0, 1) := by decide +kernel
theorem dX10_ripens_88 : decode cX10_ripens 88 = .ok (.putfield 91, 3) := by decide +kernel
theorem dX10_ripens_91 : decode cX10_ripens 91 = .ok (.aload_n 0, 1) := by decide +kernel
theorem dX10_ripens_92 : decode cX10_ripens 92 = .ok (.iload_n 2, 1) := by decide +kernel
theorem dX10_ripens_93 : decode cX10_ripens 93 = .ok (.invokevirtual 322, 3) := by decide +kernel
theorem dX10_ripens_96 : decode cX10_ripens 96 = .ok (.aload_n 0, 1) := by decide +kernel
theorem dX10_ripens_97 : decode cX10_ripens 97 = .ok (.iload_n 3, 1) := by decide +kernel
theorem dX10_ripens_98 : decode cX10_ripens 98 = .ok (.invokestatic 280, 3) := by decide +kernel
theorem dX10_ripens_101 : decode cX10_ripens 101 = .ok (.invokevirtual 322, 3) := by decide +kernel
theorem dX10_ripens_104 : decode cX10_ripens 104 = .ok (.iload_n 1, 1) := by decide +kernel
theorem dX10_ripens_105 : decode cX10_ripens 105 = .ok (.ireturn, 1) := by decide +kernel
theorem dX10_ondays_0 : decode cX10_ondays 0 = .ok (.aload_n 0, 1) := by decide +kernel
theorem dX10_ondays_1 : decode cX10_ondays 1 = .ok (.iconst 0, 1) := by decide +kernel
theorem dX10_ondays_2 : decode cX10_ondays 2 = .ok (.putfield 87, 3) := by decide +kernel
theorem dX10_ondays_5 : decode cX10_ondays 5 = .ok (.iload_n 1, 1) := by decide +kernel
theorem dX10_ondays_6 : decode cX10_ondays 6 = .ok (.aload_n 0, 1) := by decide +kernel
theorem dX10_ondays_7 : decode cX10_ondays 7 = .ok (.getfield 9, 3) := by decide +kernel
theorem dX10_ondays_10 : decode cX10_ondays 10 = .ok (.bipush 19, 2) := by decide +kernel
theorem dX10_ondays_12 : decode cX10_ondays 12 = .ok (.iaload, 1) := by decide +kernel
theorem dX10_ondays_13 : decode cX10_ondays 13 = .ok (.bipush 9, 2) := by decide +kernel
theorem dX10_ondays_15 : decode cX10_ondays 15 = .ok (.invokestatic 97, 3) := by decide +kernel
theorem dX10_ondays_18 : decode cX10_ondays 18 = .ok (.ifCond .ne 5, 3) := by decide +kernel
theorem dX10_ondays_21 : decode cX10_ondays 21 = .ok (.iconst (-1), 1) := by decide +kernel
theorem dX10_ondays_22 : decode cX10_ondays 22 = .ok (.ireturn, 1) := by decide +kernel
theorem dX10_ondays_23 : decode cX10_ondays 23 = .ok (.aload_n 0, 1) := by decide +kernel
theorem dX10_ondays_24 : decode cX10_ondays 24 = .ok (.invokevirtual 349, 3) := by decide +kernel
theorem dX10_ondays_27 : decode cX10_ondays 27 = .ok (.aload_n 0, 1) := by decide +kernel
theorem dX10_ondays_28 : decode cX10_ondays 28 = .ok (.aload_n 0, 1) := by decide +kernel
theorem dX10_ondays_29 : decode cX10_ondays 29 = .ok (.iload_n 1, 1) := by decide +kernel
theorem dX10_ondays_30 : decode cX10_ondays 30 = .ok (.invokevirtual 394, 3) := by decide +kernel
theorem dX10_ondays_33 : decode cX10_ondays 33 = .ok (.aload_n 0, 1) := by decide +kernel
theorem dX10_ondays_34 : decode cX10_ondays 34 = .ok (.aload_n 0, 1) := by decide +kernel
theorem dX10_ondays_35 : decode cX10_ondays 35 = .ok (.invokevirtual 331, 3) := by decide +kernel
theorem dX10_ondays_38 : decode cX10_ondays 38 = .ok (.invokevirtual 334, 3) := by decide +kernel
theorem dX10_ondays_41 : decode cX10_ondays 41 = .ok (.iand, 1) := by decide +kernel
theorem dX10_ondays_42 : decode cX10_ondays 42 = .ok (.invokevirtual 354, 3) := by decide +kernel
theorem dX10_ondays_45 : decode cX10_ondays 45 = .ok (.ireturn, 1) := by decide +kernel
theorem dX10_allripe_0 : decode cX10_allripe 0 = .ok (.aload_n 0, 1) := by decide +kernel
theorem dX10_allripe_1 : decode cX10_allripe 1 = .ok (.iconst 0, 1) := by decide +kernel
theorem dX10_allripe_2 : decode cX10_allripe 2 = .ok (.putfield 87, 3) := by decide +kernel
theorem dX10_allripe_5 : decode cX10_allripe 5 = .ok (.aload_n 0, 1) := by decide +kernel
theorem dX10_allripe_6 : decode cX10_allripe 6 = .ok (.aload_n 0, 1) := by decide +kernel
theorem dX10_allripe_7 : decode cX10_allripe 7 = .ok (.getfield 9, 3) := by decide +kernel
theorem dX10_allripe_10 : decode cX10_allripe 10 = .ok (.iconst 0, 1) := by decide +kernel
theorem dX10_allripe_11 : decode cX10_allripe 11 = .ok (.invokevirtual 244, 3) := by decide +kernel
theorem dX10_allripe_14 : decode cX10_allripe 14 = .ok (.istore_n 1, 1) := by decide +kernel
theorem dX10_allripe_15 : decode cX10_allripe 15 = .ok (.iload_n 1, 1) := by decide +kernel
theorem dX10_allripe_16 : decode cX10_allripe 16 = .ok (.aload_n 0, 1) := by decide +kernel
theorem dX10_allripe_17 : decode cX10_allripe 17 = .ok (.aload_n 0, 1) := by decide +kernel
theorem dX10_allripe_18 : decode cX10_allripe 18 = .ok (.getfield 9, 3) := by decide +kernel
theorem dX10_allripe_21 : decode cX10_allripe 21 = .ok (.bipush 19, 2) := by decide +kernel
theorem dX10_allripe_23 : decode cX10_allripe 23 = .ok (.iaload, 1) := by decide +kernel
theorem dX10_allripe_24 : decode cX10_allripe 24 = .ok (.invokevirtual 301, 3) := by decide +kernel
theorem dX10_allripe_27 : decode cX10_allripe 27 = .ok (.iconst (-1), 1) := by decide +kernel
theorem dX10_allripe_28 : decode cX10_allripe 28 = .ok (.ixor, 1) := by decide +kernel
theorem dX10_allripe_29 : decode cX10_allripe 29 = .ok (.iand, 1) := by decide +kernel
theorem dX10_allripe_30 : decode cX10_allripe 30 = .ok (.istore_n 2, 1) := by decide +kernel
theorem dX10_allripe_31 : decode cX10_allripe 31 = .ok (.aload_n 0, 1) := by decide +kernel
theorem dX10_allripe_32 : decode cX10_allripe 32 = .ok (.getfield 9, 3) := by decide +kernel
theorem dX10_allripe_35 : decode cX10_allripe 35 = .ok (.bipush 19, 2) := by decide +kernel
theorem dX10_allripe_37 : decode cX10_allripe 37 = .ok (.iaload, 1) := by decide +kernel
theorem dX10_allripe_38 : decode cX10_allripe 38 = .ok (.istore_n 3, 1) := by decide +kernel
theorem dX10_allripe_39 : decode cX10_allripe 39 = .ok (.iload_n 1, 1) := by decide +kernel
theorem dX10_allripe_40 : decode cX10_allripe 40 = .ok (.aload_n 0, 1) := by decide +kernel
theorem dX10_allripe_41 : decode cX10_allripe 41 = .ok (.iload_n 3, 1) := by decide +kernel
theorem dX10_allripe_42 : decode cX10_allripe 42 = .ok (.invokevirtual 301, 3) := by decide +kernel
theorem dX10_allripe_45 : decode cX10_allripe 45 = .ok (.iconst (-1), 1) := by decide +kernel
theorem dX10_allripe_46 : decode cX10_allripe 46 = .ok (.ixor, 1) := by decide +kernel
theorem dX10_allripe_47 : decode cX10_allripe 47 = .ok (.iand, 1) := by decide +kernel
theorem dX10_allripe_48 : decode cX10_allripe 48 = .ok (.ifCond .eq 9, 3) := by decide +kernel
theorem dX10_allripe_51 : decode cX10_allripe 51 = .ok (.iinc 3 1, 3) := by decide +kernel
theorem dX10_allripe_54 : decode cX10_allripe 54 = .ok (.goto (-15), 3) := by decide +kernel
theorem dX10_allripe_57 : decode cX10_allripe 57 = .ok (.aload_n 0, 1) := by decide +kernel
theorem dX10_allripe_58 : decode cX10_allripe 58 = .ok (.iconst 0, 1) := by decide +kernel
theorem dX10_allripe_59 : decode cX10_allripe 59 = .ok (.putfield 91, 3) := by decide +kernel
theorem dX10_allripe_62 : decode cX10_allripe 62 = .ok (.aload_n 0, 1) := by decide +kernel
theorem dX10_allripe_63 : decode cX10_allripe 63 = .ok (.iload_n 2, 1) := by decide +kernel
theorem dX10_allripe_64 : decode cX10_allripe 64 = .ok (.invokestatic 280, 3) := by decide +kernel
theorem dX10_allripe_67 : decode cX10_allripe 67 = .ok (.invokevirtual 322, 3) := by decide +kernel
theorem dX10_allripe_70 : decode cX10_allripe 70 = .ok (.aload_n 0, 1) := by decide +kernel
theorem dX10_allripe_71 : decode cX10_allripe 71 = .ok (.aload_n 0, 1) := by decide +kernel
theorem dX10_allripe_72 : decode cX10_allripe 72 = .ok (.iload_n 2, 1) := by decide +kernel
theorem dX10_allripe_73 : decode cX10_allripe 73 = .ok (.aload_n 0, 1) := by decide +kernel
theorem dX10_allripe_74 : decode cX10_allripe 74 = .ok (.getfield 9, 3) := by decide +kernel
theorem dX10_allripe_77 : decode cX10_allripe 77 = .ok (.bipush 16, 2) := by decide +kernel
theorem dX10_allripe_79 : decode cX10_allripe 79 = .ok (.iaload, 1) := by decide +kernel
theorem dX10_allripe_80 : decode cX10_allripe 80 = .ok (.invokevirtual 325, 3) := by decide +kernel
theorem dX10_allripe_83 : decode cX10_allripe 83 = .ok (.invokevirtual 322, 3) := by decide +kernel
theorem dX10_allripe_86 : decode cX10_allripe 86 = .ok (.iload_n 3, 1) := by decide +kernel
theorem dX10_allripe_87 : decode cX10_allripe 87 = .ok (.ireturn, 1) := by decide +kernel
theorem dX10_grass_0 : decode cX10_grass 0 = .ok (.aload_n 0, 1) := by decide +kernel
theorem dX10_grass_1 : decode cX10_grass 1 = .ok (.iconst 0, 1) := by decide +kernel
theorem dX10_grass_2 : decode cX10_grass 2 = .ok (.putfield 87, 3) := by decide +kernel
theorem dX10_grass_5 : decode cX10_grass 5 = .ok (.aload_n 0, 1) := by decide +kernel
theorem dX10_grass_6 : decode cX10_grass 6 = .ok (.aload_n 0, 1) := by decide +kernel
theorem dX10_grass_7 : decode cX10_grass 7 = .ok (.getfield 34, 3) := by decide +kernel
theorem dX10_grass_10 : decode cX10_grass 10 = .ok (.aload_n 0, 1) := by decide +kernel
theorem dX10_grass_11 : decode cX10_grass 11 = .ok (.getfield 104, 3) := by decide +kernel
theorem dX10_grass_14 : decode cX10_grass 14 = .ok (.bipush 80, 2) := by decide +kernel
theorem dX10_grass_16 : decode cX10_grass 16 = .ok (.invokevirtual 152, 3) := by decide +kernel
theorem dX10_grass_19 : decode cX10_grass 19 = .ok (.aload_n 0, 1) := by decide +kernel
theorem dX10_grass_20 : decode cX10_grass 20 = .ok (.iconst 0, 1) := by decide +kernel
theorem dX10_grass_21 : decode cX10_grass 21 = .ok (.putfield 104, 3) := by decide +kernel
theorem dX10_grass_24 : decode cX10_grass 24 = .ok (.iload_n 1, 1) := by decide +kernel
theorem dX10_grass_25 : decode cX10_grass 25 = .ok (.iconst 0, 1) := by decide +kernel
theorem dX10_grass_26 : decode cX10_grass 26 = .ok (.bipush 99, 2) := by decide +kernel
theorem dX10_grass_28 : decode cX10_grass 28 = .ok (.invokestatic 97, 3) := by decide +kernel
theorem dX10_grass_31 : decode cX10_grass 31 = .ok (.ifCond .ne 6, 3) := by decide +kernel
theorem dX10_grass_34 : decode cX10_grass 34 = .ok (.bipush (-100), 2) := by decide +kernel
theorem dX10_grass_36 : decode cX10_grass 36 = .ok (.ireturn, 1) := by decide +kernel
theorem dX10_grass_37 : decode cX10_grass 37 = .ok (.iconst 0, 1) := by decide +kernel
theorem dX10_grass_38 : decode cX10_grass 38 = .ok (.istore_n 2, 1) := by decide +kernel
theorem dX10_grass_39 : decode cX10_grass 39 = .ok (.iconst 1, 1) := by decide +kernel
theorem dX10_grass_40 : decode cX10_grass 40 = .ok (.istore_n 3, 1) := by decide +kernel
theorem dX10_grass_41 : decode cX10_grass 41 = .ok (.iload_n 3, 1) := by decide +kernel
theorem dX10_grass_42 : decode cX10_grass 42 = .ok (.ifCond .eq 51, 3) := by decide +kernel
theorem dX10_grass_45 : decode cX10_grass 45 = .ok (.aload_n 0, 1) := by decide +kernel
theorem dX10_grass_46 : decode cX10_grass 46 = .ok (.invokevirtual 122, 3) := by decide +kernel
theorem dX10_grass_49 : decode cX10_grass 49 = .ok (.ifCond .eq 44, 3) := by decide +kernel
theorem dX10_grass_52 : decode cX10_grass 52 = .ok (.iload_n 2, 1) := by decide +kernel
theorem dX10_grass_53 : decode cX10_grass 53 = .ok (.bipush 6, 2) := by decide +kernel
theorem dX10_grass_55 : decode cX10_grass 55 = .ok (.if_icmp .ne 14, 3) := by decide +kernel
theorem dX10_grass_58 : decode cX10_grass 58 = .ok (.aload_n 0, 1) := by decide +kernel
theorem dX10_grass_59 : decode cX10_grass 59 = .ok (.aload_n 0, 1) := by decide +kernel
theorem dX10_grass_60 : decode cX10_grass 60 = .ok (.getfield 116, 3) := by decide +kernel
theorem dX10_grass_63 : decode cX10_grass 63 = .ok (.invokevirtual 134, 3) := by decide +kernel
theorem dX10_grass_66 : decode cX10_grass 66 = .ok (.goto 14, 3) := by decide +kernel
theorem dX10_grass_69 : decode cX10_grass 69 = .ok (.aload_n 0, 1) := by decide +kernel
theorem dX10_grass_70 : decode cX10_grass 70 = .ok (.getfield 71, 3) := by decide +kernel
theorem dX10_grass_73 : decode cX10_grass 73 = .ok (.iload_n 2, 1) := by decide +kernel
theorem dX10_grass_74 : decode cX10_grass 74 = .ok (.aload_n 0, 1) := by decide +kernel
theorem dX10_grass_75 : decode cX10_grass 75 = .ok (.iconst 2, 1) := by decide +kernel
theorem dX10_grass_76 : decode cX10_grass 76 = .ok (.invokevirtual 141, 3) := by decide +kernel
theorem dX10_grass_79 : decode cX10_grass 79 = .ok (.iastore, 1) := by decide +kernel
theorem dX10_grass_80 : decode cX10_grass 80 = .ok (.iinc 2 1, 3) := by decide +kernel
theorem dX10_grass_83 : decode cX10_grass 83 = .ok (.aload_n 0, 1) := by decide +kernel
theorem dX10_grass_84 : decode cX10_grass 84 = .ok (.bipush 44, 2) := by decide +kernel
theorem dX10_grass_86 : decode cX10_grass 86 = .ok (.invokevirtual 130, 3) := by decide +kernel
theorem dX10_grass_89 : decode cX10_grass 89 = .ok (.istore_n 3, 1) := by decide +kernel
theorem dX10_grass_90 : decode cX10_grass 90 = .ok (.goto (-49), 3) := by decide +kernel
theorem dX10_grass_93 : decode cX10_grass 93 = .ok (.aload_n 0, 1) := by decide +kernel
theorem dX10_grass_94 : decode cX10_grass 94 = .ok (.getfield 116, 3) := by decide +kernel
theorem dX10_grass_97 : decode cX10_grass 97 = .ok (.aload_n 0, 1) := by decide +kernel
theorem dX10_grass_98 : decode cX10_grass 98 = .ok (.getfield 110, 3) := by decide +kernel
theorem dX10_grass_101 : decode cX10_grass 101 = .ok (.if_icmp .ge 11, 3) := by decide +kernel
theorem dX10_grass_104 : decode cX10_grass 104 = .ok (.aload_n 0, 1) := by decide +kernel
theorem dX10_grass_105 : decode cX10_grass 105 = .ok (.aload_n 0, 1) := by decide +kernel
theorem dX10_grass_106 : decode cX10_grass 106 = .ok (.getfield 116, 3) := by decide +kernel
theorem dX10_grass_109 : decode cX10_grass 109 = .ok (.invokevirtual 134, 3) := by decide +kernel
theorem dX10_grass_112 : decode cX10_grass 112 = .ok (.aload_n 0, 1) := by decide +kernel
theorem dX10_grass_113 : decode cX10_grass 113 = .ok (.invokevirtual 122, 3) := by decide +kernel
theorem dX10_grass_116 : decode cX10_grass 116 = .ok (.ifCond .ne 10, 3) := by decide +kernel
theorem dX10_grass_119 : decode cX10_grass 119 = .ok (.iconst (-1), 1) := by decide +kernel
theorem dX10_grass_120 : decode cX10_grass 120 = .ok (.aload_n 0, 1) := by decide +kernel
theorem dX10_grass_121 : decode cX10_grass 121 = .ok (.getfield 119, 3) := by decide +kernel
theorem dX10_grass_124 : decode cX10_grass 124 = .ok (.isub, 1) := by decide +kernel
theorem dX10_grass_125 : decode cX10_grass 125 = .ok (.ireturn, 1) := by decide +kernel
theorem dX10_grass_126 : decode cX10_grass 126 = .ok (.iconst 0, 1) := by decide +kernel
theorem dX10_grass_127 : decode cX10_grass 127 = .ok (.istore 4, 2) := by decide +kernel
theorem dX10_grass_129 : decode cX10_grass 129 = .ok (.iload_n 2, 1) := by decide +kernel
theorem dX10_grass_130 : decode cX10_grass 130 = .ok (.iconst 1, 1) := by decide +kernel
theorem dX10_grass_131 : decode cX10_grass 131 = .ok (.isub, 1) := by decide +kernel
theorem dX10_grass_132 : decode cX10_grass 132 = .ok (.istore 5, 2) := by decide +kernel
theorem dX10_grass_134 : decode cX10_grass 134 = .ok (.iload 5, 2) := by decide +kernel
theorem dX10_grass_136 : decode cX10_grass 136 = .ok (.ifCond .lt 153, 3) := by decide +kernel
theorem dX10_grass_139 : decode cX10_grass 139 = .ok (.iconst 0, 1) := by decide +kernel
theorem dX10_grass_140 : decode cX10_grass 140 = .ok (.istore 6, 2) := by decide +kernel
theorem dX10_grass_142 : decode cX10_grass 142 = .ok (.iload 6, 2) := by decide +kernel
theorem dX10_grass_144 : decode cX10_grass 144 = .ok (.aload_n 0, 1) := by decide +kernel
theorem dX10_grass_145 : decode cX10_grass 145 = .ok (.getfield 101, 3) := by decide +kernel
theorem dX10_grass_148 : decode cX10_grass 148 = .ok (.if_icmp .ge 135, 3) := by decide +kernel
theorem dX10_grass_151 : decode cX10_grass 151 = .ok (.iload 5, 2) := by decide +kernel
theorem dX10_grass_153 : decode cX10_grass 153 = .ok (.iload_n 2, 1) := by decide +kernel
theorem dX10_grass_154 : decode cX10_grass 154 = .ok (.iconst 1, 1) := by decide +kernel
theorem dX10_grass_155 : decode cX10_grass 155 = .ok (.isub, 1) := by decide +kernel
theorem dX10_grass_156 : decode cX10_grass 156 = .ok (.if_icmp .ne 7, 3) := by decide +kernel
theorem dX10_grass_159 : decode cX10_grass 159 = .ok (.iconst 1, 1) := by decide +kernel
theorem dX10_grass_160 : decode cX10_grass 160 = .ok (.goto 4, 3) := by decide +kernel
theorem dX10_grass_163 : decode cX10_grass 163 = .ok (.iconst 0, 1) := by decide +kernel
theorem dX10_grass_164 : decode cX10_grass 164 = .ok (.istore 7, 2) := by decide +kernel
theorem dX10_grass_166 : decode cX10_grass 166 = .ok (.iconst 0, 1) := by decide +kernel
theorem dX10_grass_167 : decode cX10_grass 167 = .ok (.istore 8, 2) := by decide +kernel
theorem dX10_grass_169 : decode cX10_grass 169 = .ok (.iload 8, 2) := by decide +kernel
theorem dX10_grass_171 : decode cX10_grass 171 = .ok (.aload_n 0, 1) := by decide +kernel
theorem dX10_grass_172 : decode cX10_grass 172 = .ok (.getfield 101, 3) := by decide +kernel
theorem dX10_grass_175 : decode cX10_grass 175 = .ok (.if_icmp .ge 44, 3) := by decide +kernel
theorem dX10_grass_178 : decode cX10_grass 178 = .ok (.iload 5, 2) := by decide +kernel
theorem dX10_grass_180 : decode cX10_grass 180 = .ok (.iload_n 2, 1) := by decide +kernel
theorem dX10_grass_181 : decode cX10_grass 181 = .ok (.iconst 1, 1) := by decide +kernel
theorem dX10_grass_182 : decode cX10_grass 182 = .ok (.isub, 1) := by decide +kernel
theorem dX10_grass_183 : decode cX10_grass 183 = .ok (.if_icmp .ge 36, 3) := by decide +kernel
theorem dX10_grass_186 : decode cX10_grass 186 = .ok (.iload 8, 2) := by decide +kernel
theorem dX10_grass_188 : decode cX10_grass 188 = .ok (.iload 6, 2) := by decide +kernel
theorem dX10_grass_190 : decode cX10_grass 190 = .ok (.if_icmp .eq 23, 3) := by decide +kernel
theorem dX10_grass_193 : decode cX10_grass 193 = .ok (.iload 7, 2) := by decide +kernel
theorem dX10_grass_195 : decode cX10_grass 195 = .ok (.aload_n 0, 1) := by decide +kernel
theorem dX10_grass_196 : decode cX10_grass 196 = .ok (.getfield 74, 3) := by decide +kernel
theorem dX10_grass_199 : decode cX10_grass 199 = .ok (.bipush 8, 2) := by decide +kernel
theorem dX10_grass_201 : decode cX10_grass 201 = .ok (.iload 5, 2) := by decide +kernel
theorem dX10_grass_203 : decode cX10_grass 203 = .ok (.iconst 1, 1) := by decide +kernel
theorem dX10_grass_204 : decode cX10_grass 204 = .ok (.iadd, 1) := by decide +kernel
theorem dX10_grass_205 : decode cX10_grass 205 = .ok (.imul, 1) := by decide +kernel
theorem dX10_grass_206 : decode cX10_grass 206 = .ok (.iload 8, 2) := by decide +kernel
theorem dX10_grass_208 : decode cX10_grass 208 = .ok (.iadd, 1) := by decide +kernel
theorem dX10_grass_209 : decode cX10_grass 209 = .ok (.iaload, 1) := by decide +kernel
theorem dX10_grass_210 : decode cX10_grass 210 = .ok (.iadd, 1) := by decide +kernel
theorem dX10_grass_211 : decode cX10_grass 211 = .ok (.istore 7, 2) := by decide +kernel
theorem dX10_grass_213 : decode cX10_grass 213 = .ok (.iinc 8 1, 3) := by decide +kernel
theorem dX10_grass_216 : decode cX10_grass 216 = .ok (.goto (-47), 3) := by decide +kernel
theorem dX10_grass_219 : decode cX10_grass 219 = .ok (.aload_n 0, 1) := by decide +kernel
theorem dX10_grass_220 : decode cX10_grass 220 = .ok (.getfield 74, 3) := by decide +kernel
theorem dX10_grass_223 : decode cX10_grass 223 = .ok (.bipush 8, 2) := by decide +kernel
theorem dX10_grass_225 : decode cX10_grass 225 = .ok (.iload 5, 2) := by decide +kernel
theorem dX10_grass_227 : decode cX10_grass 227 = .ok (.imul, 1) := by decide +kernel
theorem dX10_grass_228 : decode cX10_grass 228 = .ok (.iload 6, 2) := by decide +kernel
theorem dX10_grass_230 : decode cX10_grass 230 = .ok (.iadd, 1) := by decide +kernel
theorem dX10_grass_231 : decode cX10_grass 231 = .ok (.aload_n 0, 1) := by decide +kernel
theorem dX10_grass_232 : decode cX10_grass 232 = .ok (.getfield 25, 3) := by decide +kernel
theorem dX10_grass_235 : decode cX10_grass 235 = .ok (.iload 6, 2) := by decide +kernel
theorem dX10_grass_237 : decode cX10_grass 237 = .ok (.iaload, 1) := by decide +kernel
theorem dX10_grass_238 : decode cX10_grass 238 = .ok (.aload_n 0, 1) := by decide +kernel
theorem dX10_grass_239 : decode cX10_grass 239 = .ok (.getfield 71, 3) := by decide +kernel
theorem dX10_grass_242 : decode cX10_grass 242 = .ok (.iload 5, 2) := by decide +kernel
theorem dX10_grass_244 : decode cX10_grass 244 = .ok (.iaload, 1) := by decide +kernel
theorem dX10_grass_245 : decode cX10_grass 245 = .ok (.isub, 1) := by decide +kernel
theorem dX10_grass_246 : decode cX10_grass 246 = .ok (.invokestatic 206, 3) := by decide +kernel
theorem dX10_grass_249 : decode cX10_grass 249 = .ok (.iload_n 1, 1) := by decide +kernel
theorem dX10_grass_250 : decode cX10_grass 250 = .ok (.if_icmp .gt 8, 3) := by decide +kernel
theorem dX10_grass_253 : decode cX10_grass 253 = .ok (.iload 7, 2) := by decide +kernel
theorem dX10_grass_255 : decode cX10_grass 255 = .ok (.goto 4, 3) := by decide +kernel
theorem dX10_grass_258 : decode cX10_grass 258 = .ok (.iconst 0, 1) := by decide +kernel
theorem dX10_grass_259 : decode cX10_grass 259 = .ok (.iastore, 1) := by decide +kernel
theorem dX10_grass_260 : decode cX10_grass 260 = .ok (.iload 5, 2) := by decide +kernel
theorem dX10_grass_262 : decode cX10_grass 262 = .ok (.ifCond .ne 15, 3) := by decide +kernel
theorem dX10_grass_265 : decode cX10_grass 265 = .ok (.iload 4, 2) := by decide +kernel
theorem dX10_grass_267 : decode cX10_grass 267 = .ok (.aload_n 0, 1) := by decide +kernel
theorem dX10_grass_268 : decode cX10_grass 268 = .ok (.getfield 74, 3) := by decide +kernel
theorem dX10_grass_271 : decode cX10_grass 271 = .ok (.iload 6, 2) := by decide +kernel
theorem dX10_grass_273 : decode cX10_grass 273 = .ok (.iaload, 1) := by decide +kernel
theorem dX10_grass_274 : decode cX10_grass 274 = .ok (.iadd, 1) := by decide +kernel
theorem dX10_grass_275 : decode cX10_grass 275 = .ok (.istore 4, 2) := by decide +kernel
theorem dX10_grass_277 : decode cX10_grass 277 = .ok (.iinc 6 1, 3) := by decide +kernel
theorem dX10_grass_280 : decode cX10_grass 280 = .ok (.goto (-138), 3) := by decide +kernel
theorem dX10_grass_283 : decode cX10_grass 283 = .ok (.iinc 5 (-1), 3) := by decide +kernel
theorem dX10_grass_286 : decode cX10_grass 286 = .ok (.goto (-152), 3) := by decide +kernel
theorem dX10_grass_289 : decode cX10_grass 289 = .ok (.aload_n 0, 1) := by decide +kernel
theorem dX10_grass_290 : decode cX10_grass 290 = .ok (.iconst 0, 1) := by decide +kernel
theorem dX10_grass_291 : decode cX10_grass 291 = .ok (.putfield 91, 3) := by decide +kernel
theorem dX10_grass_294 : decode cX10_grass 294 = .ok (.iconst (-1), 1) := by decide +kernel
theorem dX10_grass_295 : decode cX10_grass 295 = .ok (.istore 5, 2) := by decide +kernel
theorem dX10_grass_297 : decode cX10_grass 297 = .ok (.iconst 0, 1) := by decide +kernel
theorem dX10_grass_298 : decode cX10_grass 298 = .ok (.istore 6, 2) := by decide +kernel
theorem dX10_grass_300 : decode cX10_grass 300 = .ok (.iload 6, 2) := by decide +kernel
theorem dX10_grass_302 : decode cX10_grass 302 = .ok (.iload_n 2, 1) := by decide +kernel
theorem dX10_grass_303 : decode cX10_grass 303 = .ok (.if_icmp .ge 56, 3) := by decide +kernel
theorem dX10_grass_306 : decode cX10_grass 306 = .ok (.iload 4, 2) := by decide +kernel
theorem dX10_grass_308 : decode cX10_grass 308 = .ok (.ifCond .le 51, 3) := by decide +kernel
theorem dX10_grass_311 : decode cX10_grass 311 = .ok (.iconst 0, 1) := by decide +kernel
theorem dX10_grass_312 : decode cX10_grass 312 = .ok (.istore 7, 2) := by decide +kernel
theorem dX10_grass_314 : decode cX10_grass 314 = .ok (.iload 7, 2) := by decide +kernel
theorem dX10_grass_316 : decode cX10_grass 316 = .ok (.iload 5, 2) := by decide +kernel
theorem dX10_grass_318 : decode cX10_grass 318 = .ok (.if_icmp .eq 19, 3) := by decide +kernel
theorem dX10_grass_321 : decode cX10_grass 321 = .ok (.aload_n 0, 1) := by decide +kernel
theorem dX10_grass_322 : decode cX10_grass 322 = .ok (.getfield 74, 3) := by decide +kernel
theorem dX10_grass_325 : decode cX10_grass 325 = .ok (.bipush 8, 2) := by decide +kernel
theorem dX10_grass_327 : decode cX10_grass 327 = .ok (.iload 6, 2) := by decide +kernel
theorem dX10_grass_329 : decode cX10_grass 329 = .ok (.imul, 1) := by decide +kernel
theorem dX10_grass_330 : decode cX10_grass 330 = .ok (.iload 7, 2) := by decide +kernel
theorem dX10_grass_332 : decode cX10_grass 332 = .ok (.iadd, 1) := by decide +kernel
theorem dX10_grass_333 : decode cX10_grass 333 = .ok (.iaload, 1) := by decide +kernel
theorem dX10_grass_334 : decode cX10_grass 334 = .ok (.ifCond .ne 9, 3) := by decide +kernel
theorem dX10_grass_337 : decode cX10_grass 337 = .ok (.iinc 7 1, 3) := by decide +kernel
theorem dX10_grass_340 : decode cX10_grass 340 = .ok (.goto (-26), 3) := by decide +kernel
theorem dX10_grass_343 : decode cX10_grass 343 = .ok (.aload_n 0, 1) := by decide +kernel
theorem dX10_grass_344 : decode cX10_grass 344 = .ok (.iload 7, 2) := by decide +kernel
theorem dX10_grass_346 : decode cX10_grass 346 = .ok (.invokevirtual 322, 3) := by decide +kernel
theorem dX10_grass_349 : decode cX10_grass 349 = .ok (.iload 7, 2) := by decide +kernel
theorem dX10_grass_351 : decode cX10_grass 351 = .ok (.istore 5, 2) := by decide +kernel
theorem dX10_grass_353 : decode cX10_grass 353 = .ok (.iinc 6 1, 3) := by decide +kernel
theorem dX10_grass_356 : decode cX10_grass 356 = .ok (.goto (-56), 3) := by decide +kernel
theorem dX10_grass_359 : decode cX10_grass 359 = .ok (.iload 4, 2) := by decide +kernel
theorem dX10_grass_361 : decode cX10_grass 361 = .ok (.ireturn, 1) := by decide +kernel
theorem dX10_marks_0 : decode cX10_marks 0 = .ok (.aload_n 0, 1) := by decide +kernel
theorem dX10_marks_1 : decode cX10_marks 1 = .ok (.iconst 0, 1) := by decide +kernel
theorem dX10_marks_2 : decode cX10_marks 2 = .ok (.putfield 87, 3) := by decide +kernel
theorem dX10_marks_5 : decode cX10_marks 5 = .ok (.iload_n 1, 1) := by decide +kernel
theorem dX10_marks_6 : decode cX10_marks 6 = .ok (.iconst 0, 1) := by decide +kernel
theorem dX10_marks_7 : decode cX10_marks 7 = .ok (.bipush 99, 2) := by decide +kernel
theorem dX10_marks_9 : decode cX10_marks 9 = .ok (.invokestatic 97, 3) := by decide +kernel
theorem dX10_marks_12 : decode cX10_marks 12 = .ok (.ifCond .eq 13, 3) := by decide +kernel
theorem dX10_marks_15 : decode cX10_marks 15 = .ok (.iload_n 2, 1) := by decide +kernel
theorem dX10_marks_16 : decode cX10_marks 16 = .ok (.iconst 0, 1) := by decide +kernel
theorem dX10_marks_17 : decode cX10_marks 17 = .ok (.bipush 99, 2) := by decide +kernel
theorem dX10_marks_19 : decode cX10_marks 19 = .ok (.invokestatic 97, 3) := by decide +kernel
theorem dX10_marks_22 : decode cX10_marks 22 = .ok (.ifCond .ne 5, 3) := by decide +kernel
theorem dX10_marks_25 : decode cX10_marks 25 = .ok (.iconst (-1), 1) := by decide +kernel
theorem dX10_marks_26 : decode cX10_marks 26 = .ok (.ireturn, 1) := by decide +kernel
theorem dX10_marks_27 : decode cX10_marks 27 = .ok (.iconst 0, 1) := by decide +kernel
theorem dX10_marks_28 : decode cX10_marks 28 = .ok (.istore_n 3, 1) := by decide +kernel
theorem dX10_marks_29 : decode cX10_marks 29 = .ok (.iconst 0, 1) := by decide +kernel
theorem dX10_marks_30 : decode cX10_marks 30 = .ok (.istore 4, 2) := by decide +kernel
theorem dX10_marks_32 : decode cX10_marks 32 = .ok (.iload 4, 2) := by decide +kernel
theorem dX10_marks_34 : decode cX10_marks 34 = .ok (.aload_n 0, 1) := by decide +kernel
theorem dX10_marks_35 : decode cX10_marks 35 = .ok (.getfield 101, 3) := by decide +kernel
theorem dX10_marks_38 : decode cX10_marks 38 = .ok (.if_icmp .ge 36, 3) := by decide +kernel
theorem dX10_marks_41 : decode cX10_marks 41 = .ok (.iload_n 3, 1) := by decide +kernel
theorem dX10_marks_42 : decode cX10_marks 42 = .ok (.aload_n 0, 1) := by decide +kernel
theorem dX10_marks_43 : decode cX10_marks 43 = .ok (.getfield 25, 3) := by decide +kernel
theorem dX10_marks_46 : decode cX10_marks 46 = .ok (.iload 4, 2) := by decide +kernel
theorem dX10_marks_48 : decode cX10_marks 48 = .ok (.iaload, 1) := by decide +kernel
theorem dX10_marks_49 : decode cX10_marks 49 = .ok (.iload_n 1, 1) := by decide +kernel
theorem dX10_marks_50 : decode cX10_marks 50 = .ok (.isub, 1) := by decide +kernel
theorem dX10_marks_51 : decode cX10_marks 51 = .ok (.invokestatic 206, 3) := by decide +kernel
theorem dX10_marks_54 : decode cX10_marks 54 = .ok (.iload_n 2, 1) := by decide +kernel
theorem dX10_marks_55 : decode cX10_marks 55 = .ok (.if_icmp .gt 10, 3) := by decide +kernel
theorem dX10_marks_58 : decode cX10_marks 58 = .ok (.iconst 1, 1) := by decide +kernel
theorem dX10_marks_59 : decode cX10_marks 59 = .ok (.iload 4, 2) := by decide +kernel
theorem dX10_marks_61 : decode cX10_marks 61 = .ok (.ishl, 1) := by decide +kernel
theorem dX10_marks_62 : decode cX10_marks 62 = .ok (.goto 4, 3) := by decide +kernel
theorem dX10_marks_65 : decode cX10_marks 65 = .ok (.iconst 0, 1) := by decide +kernel
theorem dX10_marks_66 : decode cX10_marks 66 = .ok (.ior, 1) := by decide +kernel
theorem dX10_marks_67 : decode cX10_marks 67 = .ok (.istore_n 3, 1) := by decide +kernel
theorem dX10_marks_68 : decode cX10_marks 68 = .ok (.iinc 4 1, 3) := by decide +kernel
theorem dX10_marks_71 : decode cX10_marks 71 = .ok (.goto (-39), 3) := by decide +kernel
theorem dX10_marks_74 : decode cX10_marks 74 = .ok (.iload_n 3, 1) := by decide +kernel
theorem dX10_marks_75 : decode cX10_marks 75 = .ok (.ireturn, 1) := by decide +kernel
theorem dX10_allFruits_0 : decode cX10_allFruits 0 = .ok (.iconst 1, 1) := by decide +kernel
theorem dX10_allFruits_1 : decode cX10_allFruits 1 = .ok (.aload_n 0, 1) := by decide +kernel
theorem dX10_allFruits_2 : decode cX10_allFruits 2 = .ok (.getfield 94, 3) := by decide +kernel
theorem dX10_allFruits_5 : decode cX10_allFruits 5 = .ok (.ishl, 1) := by decide +kernel
theorem dX10_allFruits_6 : decode cX10_allFruits 6 = .ok (.iconst 1, 1) := by decide +kernel
theorem dX10_allFruits_7 : decode cX10_allFruits 7 = .ok (.isub, 1) := by decide +kernel
theorem dX10_allFruits_8 : decode cX10_allFruits 8 = .ok (.ireturn, 1) := by decide +kernel
theorem dX10_fits_0 : decode cX10_fits 0 = .ok (.aload_n 0, 1) := by decide +kernel
theorem dX10_fits_1 : decode cX10_fits 1 = .ok (.iconst 0, 1) := by decide +kernel
theorem dX10_fits_2 : decode cX10_fits 2 = .ok (.putfield 87, 3) := by decide +kernel
theorem dX10_fits_5 : decode cX10_fits 5 = .ok (.iload_n 1, 1) := by decide +kernel
theorem dX10_fits_6 : decode cX10_fits 6 = .ok (.iconst 0, 1) := by decide +kernel
theorem dX10_fits_7 : decode cX10_fits 7 = .ok (.aload_n 0, 1) := by decide +kernel
theorem dX10_fits_8 : decode cX10_fits 8 = .ok (.invokevirtual 397, 3) := by decide +kernel
theorem dX10_fits_11 : decode cX10_fits 11 = .ok (.invokestatic 97, 3) := by decide +kernel
theorem dX10_fits_14 : decode cX10_fits 14 = .ok (.ifCond .ne 5, 3) := by decide +kernel
theorem dX10_fits_17 : decode cX10_fits 17 = .ok (.iconst (-1), 1) := by decide +kernel
theorem dX10_fits_18 : decode cX10_fits 18 = .ok (.ireturn, 1) := by decide +kernel
theorem dX10_fits_19 : decode cX10_fits 19 = .ok (.aload_n 0, 1) := by decide +kernel
theorem dX10_fits_20 : decode cX10_fits 20 = .ok (.invokevirtual 349, 3) := by decide +kernel
theorem dX10_fits_23 : decode cX10_fits 23 = .ok (.iconst 0, 1) := by decide +kernel
theorem dX10_fits_24 : decode cX10_fits 24 = .ok (.istore_n 2, 1) := by decide +kernel
theorem dX10_fits_25 : decode cX10_fits 25 = .ok (.iconst 0, 1) := by decide +kernel
theorem dX10_fits_26 : decode cX10_fits 26 = .ok (.istore_n 3, 1) := by decide +kernel
theorem dX10_fits_27 : decode cX10_fits 27 = .ok (.iload_n 3, 1) := by decide +kernel
theorem dX10_fits_28 : decode cX10_fits 28 = .ok (.aload_n 0, 1) := by decide +kernel
theorem dX10_fits_29 : decode cX10_fits 29 = .ok (.getfield 101, 3) := by decide +kernel
theorem dX10_fits_32 : decode cX10_fits 32 = .ok (.if_icmp .ge 30, 3) := by decide +kernel
theorem dX10_fits_35 : decode cX10_fits 35 = .ok (.iload_n 2, 1) := by decide +kernel
theorem dX10_fits_36 : decode cX10_fits 36 = .ok (.aload_n 0, 1) := by decide +kernel
theorem dX10_fits_37 : decode cX10_fits 37 = .ok (.getfield 59, 3) := by decide +kernel
theorem dX10_fits_40 : decode cX10_fits 40 = .ok (.iload_n 3, 1) := by decide +kernel
theorem dX10_fits_41 : decode cX10_fits 41 = .ok (.iaload, 1) := by decide +kernel
theorem dX10_fits_42 : decode cX10_fits 42 = .ok (.iload_n 1, 1) := by decide +kernel
theorem dX10_fits_43 : decode cX10_fits 43 = .ok (.iand, 1) := by decide +kernel
theorem dX10_fits_44 : decode cX10_fits 44 = .ok (.ifCond .eq 9, 3) := by decide +kernel
theorem dX10_fits_47 : decode cX10_fits 47 = .ok (.iconst 1, 1) := by decide +kernel
theorem dX10_fits_48 : decode cX10_fits 48 = .ok (.iload_n 3, 1) := by decide +kernel
theorem dX10_fits_49 : decode cX10_fits 49 = .ok (.ishl, 1) := by decide +kernel
theorem dX10_fits_50 : decode cX10_fits 50 = .ok (.goto 4, 3) := by decide +kernel
theorem dX10_fits_53 : decode cX10_fits 53 = .ok (.iconst 0, 1) := by decide +kernel
theorem dX10_fits_54 : decode cX10_fits 54 = .ok (.ior, 1) := by decide +kernel
theorem dX10_fits_55 : decode cX10_fits 55 = .ok (.istore_n 2, 1) := by decide +kernel
theorem dX10_fits_56 : decode cX10_fits 56 = .ok (.iinc 3 1, 3) := by decide +kernel
theorem dX10_fits_59 : decode cX10_fits 59 = .ok (.goto (-32), 3) := by decide +kernel
theorem dX10_fits_62 : decode cX10_fits 62 = .ok (.iconst 0, 1) := by decide +kernel
theorem dX10_fits_63 : decode cX10_fits 63 = .ok (.istore_n 3, 1) := by decide +kernel
theorem dX10_fits_64 : decode cX10_fits 64 = .ok (.iconst (-1), 1) := by decide +kernel
theorem dX10_fits_65 : decode cX10_fits 65 = .ok (.istore 4, 2) := by decide +kernel
theorem dX10_fits_67 : decode cX10_fits 67 = .ok (.iconst (-1), 1) := by decide +kernel
theorem dX10_fits_68 : decode cX10_fits 68 = .ok (.istore 5, 2) := by decide +kernel
theorem dX10_fits_70 : decode cX10_fits 70 = .ok (.iconst 0, 1) := by decide +kernel
theorem dX10_fits_71 : decode cX10_fits 71 = .ok (.istore 6, 2) := by decide +kernel
