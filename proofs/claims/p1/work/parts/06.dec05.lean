theorem dX5_workSeconds_53 : decode cX5_workSeconds 53 = .ok (.invokevirtual 110, 3) := by decide +kernel
theorem dX5_workSeconds_56 : decode cX5_workSeconds 56 = .ok (.goto 4, 3) := by decide +kernel
theorem dX5_workSeconds_59 : decode cX5_workSeconds 59 = .ok (.iconst (-1), 1) := by decide +kernel
theorem dX5_workSeconds_60 : decode cX5_workSeconds 60 = .ok (.istore_n 3, 1) := by decide +kernel
theorem dX5_workSeconds_61 : decode cX5_workSeconds 61 = .ok (.iload_n 3, 1) := by decide +kernel
theorem dX5_workSeconds_62 : decode cX5_workSeconds 62 = .ok (.iconst (-1), 1) := by decide +kernel
theorem dX5_workSeconds_63 : decode cX5_workSeconds 63 = .ok (.if_icmp .eq 33, 3) := by decide +kernel
theorem dX5_workSeconds_66 : decode cX5_workSeconds 66 = .ok (.aload_n 0, 1) := by decide +kernel
theorem dX5_workSeconds_67 : decode cX5_workSeconds 67 = .ok (.dup, 1) := by decide +kernel
theorem dX5_workSeconds_68 : decode cX5_workSeconds 68 = .ok (.getfield 107, 3) := by decide +kernel
theorem dX5_workSeconds_71 : decode cX5_workSeconds 71 = .ok (.aload_n 0, 1) := by decide +kernel
theorem dX5_workSeconds_72 : decode cX5_workSeconds 72 = .ok (.getfield 29, 3) := by decide +kernel
theorem dX5_workSeconds_75 : decode cX5_workSeconds 75 = .ok (.iload_n 2, 1) := by decide +kernel
theorem dX5_workSeconds_76 : decode cX5_workSeconds 76 = .ok (.bipush 8, 2) := by decide +kernel
theorem dX5_workSeconds_78 : decode cX5_workSeconds 78 = .ok (.imul, 1) := by decide +kernel
theorem dX5_workSeconds_79 : decode cX5_workSeconds 79 = .ok (.iload_n 3, 1) := by decide +kernel
theorem dX5_workSeconds_80 : decode cX5_workSeconds 80 = .ok (.iadd, 1) := by decide +kernel
theorem dX5_workSeconds_81 : decode cX5_workSeconds 81 = .ok (.iaload, 1) := by decide +kernel
theorem dX5_workSeconds_82 : decode cX5_workSeconds 82 = .ok (.iadd, 1) := by decide +kernel
theorem dX5_workSeconds_83 : decode cX5_workSeconds 83 = .ok (.putfield 107, 3) := by decide +kernel
theorem dX5_workSeconds_86 : decode cX5_workSeconds 86 = .ok (.aload_n 0, 1) := by decide +kernel
theorem dX5_workSeconds_87 : decode cX5_workSeconds 87 = .ok (.getfield 32, 3) := by decide +kernel
theorem dX5_workSeconds_90 : decode cX5_workSeconds 90 = .ok (.iload_n 3, 1) := by decide +kernel
theorem dX5_workSeconds_91 : decode cX5_workSeconds 91 = .ok (.dup2, 1) := by decide +kernel
theorem dX5_workSeconds_92 : decode cX5_workSeconds 92 = .ok (.iaload, 1) := by decide +kernel
theorem dX5_workSeconds_93 : decode cX5_workSeconds 93 = .ok (.iconst 1, 1) := by decide +kernel
theorem dX5_workSeconds_94 : decode cX5_workSeconds 94 = .ok (.iadd, 1) := by decide +kernel
theorem dX5_workSeconds_95 : decode cX5_workSeconds 95 = .ok (.iastore, 1) := by decide +kernel
theorem dX5_workSeconds_96 : decode cX5_workSeconds 96 = .ok (.iinc 2 1, 3) := by decide +kernel
theorem dX5_workSeconds_99 : decode cX5_workSeconds 99 = .ok (.goto (-71), 3) := by decide +kernel
theorem dX5_workSeconds_102 : decode cX5_workSeconds 102 = .ok (.aload_n 0, 1) := by decide +kernel
theorem dX5_workSeconds_103 : decode cX5_workSeconds 103 = .ok (.iconst 0, 1) := by decide +kernel
theorem dX5_workSeconds_104 : decode cX5_workSeconds 104 = .ok (.putfield 113, 3) := by decide +kernel
theorem dX5_workSeconds_107 : decode cX5_workSeconds 107 = .ok (.iconst 0, 1) := by decide +kernel
theorem dX5_workSeconds_108 : decode cX5_workSeconds 108 = .ok (.istore_n 2, 1) := by decide +kernel
theorem dX5_workSeconds_109 : decode cX5_workSeconds 109 = .ok (.iload_n 2, 1) := by decide +kernel
theorem dX5_workSeconds_110 : decode cX5_workSeconds 110 = .ok (.aload_n 0, 1) := by decide +kernel
theorem dX5_workSeconds_111 : decode cX5_workSeconds 111 = .ok (.getfield 24, 3) := by decide +kernel
theorem dX5_workSeconds_114 : decode cX5_workSeconds 114 = .ok (.getfield 64, 3) := by decide +kernel
theorem dX5_workSeconds_117 : decode cX5_workSeconds 117 = .ok (.if_icmp .ge 32, 3) := by decide +kernel
theorem dX5_workSeconds_120 : decode cX5_workSeconds 120 = .ok (.aload_n 0, 1) := by decide +kernel
theorem dX5_workSeconds_121 : decode cX5_workSeconds 121 = .ok (.dup, 1) := by decide +kernel
theorem dX5_workSeconds_122 : decode cX5_workSeconds 122 = .ok (.getfield 113, 3) := by decide +kernel
theorem dX5_workSeconds_125 : decode cX5_workSeconds 125 = .ok (.aload_n 0, 1) := by decide +kernel
theorem dX5_workSeconds_126 : decode cX5_workSeconds 126 = .ok (.getfield 24, 3) := by decide +kernel
theorem dX5_workSeconds_129 : decode cX5_workSeconds 129 = .ok (.iload_n 2, 1) := by decide +kernel
theorem dX5_workSeconds_130 : decode cX5_workSeconds 130 = .ok (.aload_n 0, 1) := by decide +kernel
theorem dX5_workSeconds_131 : decode cX5_workSeconds 131 = .ok (.getfield 32, 3) := by decide +kernel
theorem dX5_workSeconds_134 : decode cX5_workSeconds 134 = .ok (.iload_n 2, 1) := by decide +kernel
theorem dX5_workSeconds_135 : decode cX5_workSeconds 135 = .ok (.iaload, 1) := by decide +kernel
theorem dX5_workSeconds_136 : decode cX5_workSeconds 136 = .ok (.invokevirtual 116, 3) := by decide +kernel
theorem dX5_workSeconds_139 : decode cX5_workSeconds 139 = .ok (.iadd, 1) := by decide +kernel
theorem dX5_workSeconds_140 : decode cX5_workSeconds 140 = .ok (.putfield 113, 3) := by decide +kernel
theorem dX5_workSeconds_143 : decode cX5_workSeconds 143 = .ok (.iinc 2 1, 3) := by decide +kernel
theorem dX5_workSeconds_146 : decode cX5_workSeconds 146 = .ok (.goto (-37), 3) := by decide +kernel
theorem dX5_workSeconds_149 : decode cX5_workSeconds 149 = .ok (.aload_n 0, 1) := by decide +kernel
theorem dX5_workSeconds_150 : decode cX5_workSeconds 150 = .ok (.aload_n 0, 1) := by decide +kernel
theorem dX5_workSeconds_151 : decode cX5_workSeconds 151 = .ok (.getfield 24, 3) := by decide +kernel
theorem dX5_workSeconds_154 : decode cX5_workSeconds 154 = .ok (.aload_n 0, 1) := by decide +kernel
theorem dX5_workSeconds_155 : decode cX5_workSeconds 155 = .ok (.getfield 14, 3) := by decide +kernel
theorem dX5_workSeconds_158 : decode cX5_workSeconds 158 = .ok (.getfield 41, 3) := by decide +kernel
theorem dX5_workSeconds_161 : decode cX5_workSeconds 161 = .ok (.getfield 119, 3) := by decide +kernel
theorem dX5_workSeconds_164 : decode cX5_workSeconds 164 = .ok (.aload_n 0, 1) := by decide +kernel
theorem dX5_workSeconds_165 : decode cX5_workSeconds 165 = .ok (.getfield 14, 3) := by decide +kernel
theorem dX5_workSeconds_168 : decode cX5_workSeconds 168 = .ok (.iload_n 1, 1) := by decide +kernel
theorem dX5_workSeconds_169 : decode cX5_workSeconds 169 = .ok (.invokevirtual 122, 3) := by decide +kernel
theorem dX5_workSeconds_172 : decode cX5_workSeconds 172 = .ok (.invokevirtual 125, 3) := by decide +kernel
theorem dX5_workSeconds_175 : decode cX5_workSeconds 175 = .ok (.putfield 128, 3) := by decide +kernel
theorem dX5_workSeconds_178 : decode cX5_workSeconds 178 = .ok (.aload_n 0, 1) := by decide +kernel
theorem dX5_workSeconds_179 : decode cX5_workSeconds 179 = .ok (.getfield 128, 3) := by decide +kernel
theorem dX5_workSeconds_182 : decode cX5_workSeconds 182 = .ok (.aload_n 0, 1) := by decide +kernel
theorem dX5_workSeconds_183 : decode cX5_workSeconds 183 = .ok (.getfield 107, 3) := by decide +kernel
theorem dX5_workSeconds_186 : decode cX5_workSeconds 186 = .ok (.iadd, 1) := by decide +kernel
theorem dX5_workSeconds_187 : decode cX5_workSeconds 187 = .ok (.aload_n 0, 1) := by decide +kernel
theorem dX5_workSeconds_188 : decode cX5_workSeconds 188 = .ok (.getfield 113, 3) := by decide +kernel
theorem dX5_workSeconds_191 : decode cX5_workSeconds 191 = .ok (.iadd, 1) := by decide +kernel
theorem dX5_workSeconds_192 : decode cX5_workSeconds 192 = .ok (.ireturn, 1) := by decide +kernel
theorem dX9_tell___0 : decode cX9_tell__ 0 = .ok (.aload_n 0, 1) := by decide +kernel
theorem dX9_tell___1 : decode cX9_tell__ 1 = .ok (.iload_n 1, 1) := by decide +kernel
theorem dX9_tell___2 : decode cX9_tell__ 2 = .ok (.iload_n 2, 1) := by decide +kernel
theorem dX9_tell___3 : decode cX9_tell__ 3 = .ok (.invokevirtual 234, 3) := by decide +kernel
theorem dX9_tell___6 : decode cX9_tell__ 6 = .ok (.aload_n 0, 1) := by decide +kernel
theorem dX9_tell___7 : decode cX9_tell__ 7 = .ok (.getfield 50, 3) := by decide +kernel
theorem dX9_tell___10 : decode cX9_tell__ 10 = .ok (.iload_n 3, 1) := by decide +kernel
theorem dX9_tell___11 : decode cX9_tell__ 11 = .ok (.invokevirtual 318, 3) := by decide +kernel
theorem dX9_tell___14 : decode cX9_tell__ 14 = .ok (.return_, 1) := by decide +kernel
theorem dX9_work_0 : decode cX9_work 0 = .ok (.aload_n 0, 1) := by decide +kernel
theorem dX9_work_1 : decode cX9_work 1 = .ok (.getfield 34, 3) := by decide +kernel
theorem dX9_work_4 : decode cX9_work 4 = .ok (.iload_n 1, 1) := by decide +kernel
theorem dX9_work_5 : decode cX9_work 5 = .ok (.invokevirtual 301, 3) := by decide +kernel
theorem dX9_work_8 : decode cX9_work 8 = .ok (.ifCond .ne 5, 3) := by decide +kernel
theorem dX9_work_11 : decode cX9_work 11 = .ok (.iconst (-1), 1) := by decide +kernel
theorem dX9_work_12 : decode cX9_work 12 = .ok (.ireturn, 1) := by decide +kernel
theorem dX9_work_13 : decode cX9_work 13 = .ok (.aload_n 0, 1) := by decide +kernel
theorem dX9_work_14 : decode cX9_work 14 = .ok (.getfield 19, 3) := by decide +kernel
theorem dX9_work_17 : decode cX9_work 17 = .ok (.invokevirtual 265, 3) := by decide +kernel
theorem dX9_work_20 : decode cX9_work 20 = .ok (.aload_n 0, 1) := by decide +kernel
theorem dX9_work_21 : decode cX9_work 21 = .ok (.getfield 19, 3) := by decide +kernel
theorem dX9_work_24 : decode cX9_work 24 = .ok (.invokevirtual 323, 3) := by decide +kernel
theorem dX9_work_27 : decode cX9_work 27 = .ok (.aload_n 0, 1) := by decide +kernel
theorem dX9_work_28 : decode cX9_work 28 = .ok (.getfield 19, 3) := by decide +kernel
theorem dX9_work_31 : decode cX9_work 31 = .ok (.iload_n 1, 1) := by decide +kernel
theorem dX9_work_32 : decode cX9_work 32 = .ok (.invokevirtual 326, 3) := by decide +kernel
theorem dX9_work_35 : decode cX9_work 35 = .ok (.istore_n 2, 1) := by decide +kernel
theorem dX9_work_36 : decode cX9_work 36 = .ok (.aload_n 0, 1) := by decide +kernel
theorem dX9_work_37 : decode cX9_work 37 = .ok (.aload_n 0, 1) := by decide +kernel
theorem dX9_work_38 : decode cX9_work 38 = .ok (.getfield 19, 3) := by decide +kernel
theorem dX9_work_41 : decode cX9_work 41 = .ok (.getfield 329, 3) := by decide +kernel
theorem dX9_work_44 : decode cX9_work 44 = .ok (.aload_n 0, 1) := by decide +kernel
theorem dX9_work_45 : decode cX9_work 45 = .ok (.getfield 19, 3) := by decide +kernel
theorem dX9_work_48 : decode cX9_work 48 = .ok (.getfield 332, 3) := by decide +kernel
theorem dX9_work_51 : decode cX9_work 51 = .ok (.aload_n 0, 1) := by decide +kernel
theorem dX9_work_52 : decode cX9_work 52 = .ok (.getfield 19, 3) := by decide +kernel
theorem dX9_work_55 : decode cX9_work 55 = .ok (.getfield 335, 3) := by decide +kernel
theorem dX9_work_58 : decode cX9_work 58 = .ok (.invokevirtual 338, 3) := by decide +kernel
theorem dX9_work_61 : decode cX9_work 61 = .ok (.iload_n 2, 1) := by decide +kernel
theorem dX9_work_62 : decode cX9_work 62 = .ok (.ireturn, 1) := by decide +kernel
theorem dX9_soonest_0 : decode cX9_soonest 0 = .ok (.aload_n 0, 1) := by decide +kernel
theorem dX9_soonest_1 : decode cX9_soonest 1 = .ok (.getfield 19, 3) := by decide +kernel
theorem dX9_soonest_4 : decode cX9_soonest 4 = .ok (.invokevirtual 265, 3) := by decide +kernel
theorem dX9_soonest_7 : decode cX9_soonest 7 = .ok (.aload_n 0, 1) := by decide +kernel
theorem dX9_soonest_8 : decode cX9_soonest 8 = .ok (.getfield 19, 3) := by decide +kernel
theorem dX9_soonest_11 : decode cX9_soonest 11 = .ok (.invokevirtual 323, 3) := by decide +kernel
theorem dX9_soonest_14 : decode cX9_soonest 14 = .ok (.aload_n 0, 1) := by decide +kernel
theorem dX9_soonest_15 : decode cX9_soonest 15 = .ok (.getfield 34, 3) := by decide +kernel
theorem dX9_soonest_18 : decode cX9_soonest 18 = .ok (.invokevirtual 277, 3) := by decide +kernel
theorem dX9_soonest_21 : decode cX9_soonest 21 = .ok (.istore_n 1, 1) := by decide +kernel
theorem dX9_soonest_22 : decode cX9_soonest 22 = .ok (.aload_n 0, 1) := by decide +kernel
theorem dX9_soonest_23 : decode cX9_soonest 23 = .ok (.getfield 19, 3) := by decide +kernel
theorem dX9_soonest_26 : decode cX9_soonest 26 = .ok (.iload_n 1, 1) := by decide +kernel
theorem dX9_soonest_27 : decode cX9_soonest 27 = .ok (.invokevirtual 326, 3) := by decide +kernel
theorem dX9_soonest_30 : decode cX9_soonest 30 = .ok (.istore_n 2, 1) := by decide +kernel
theorem dX9_soonest_31 : decode cX9_soonest 31 = .ok (.iconst 0, 1) := by decide +kernel
theorem dX9_soonest_32 : decode cX9_soonest 32 = .ok (.istore_n 3, 1) := by decide +kernel
theorem dX9_soonest_33 : decode cX9_soonest 33 = .ok (.iload_n 3, 1) := by decide +kernel
theorem dX9_soonest_34 : decode cX9_soonest 34 = .ok (.aload_n 0, 1) := by decide +kernel
theorem dX9_soonest_35 : decode cX9_soonest 35 = .ok (.getfield 34, 3) := by decide +kernel
theorem dX9_soonest_38 : decode cX9_soonest 38 = .ok (.invokevirtual 277, 3) := by decide +kernel
theorem dX9_soonest_41 : decode cX9_soonest 41 = .ok (.if_icmp .ge 65, 3) := by decide +kernel
theorem dX9_soonest_44 : decode cX9_soonest 44 = .ok (.aload_n 0, 1) := by decide +kernel
theorem dX9_soonest_45 : decode cX9_soonest 45 = .ok (.getfield 19, 3) := by decide +kernel
theorem dX9_soonest_48 : decode cX9_soonest 48 = .ok (.getfield 274, 3) := by decide +kernel
theorem dX9_soonest_51 : decode cX9_soonest 51 = .ok (.aload_n 0, 1) := by decide +kernel
theorem dX9_soonest_52 : decode cX9_soonest 52 = .ok (.getfield 19, 3) := by decide +kernel
theorem dX9_soonest_55 : decode cX9_soonest 55 = .ok (.iload_n 3, 1) := by decide +kernel
theorem dX9_soonest_56 : decode cX9_soonest 56 = .ok (.invokevirtual 286, 3) := by decide +kernel
theorem dX9_soonest_59 : decode cX9_soonest 59 = .ok (.iconst (-1), 1) := by decide +kernel
theorem dX9_soonest_60 : decode cX9_soonest 60 = .ok (.ixor, 1) := by decide +kernel
theorem dX9_soonest_61 : decode cX9_soonest 61 = .ok (.iand, 1) := by decide +kernel
theorem dX9_soonest_62 : decode cX9_soonest 62 = .ok (.ifCond .ne 38, 3) := by decide +kernel
theorem dX9_soonest_65 : decode cX9_soonest 65 = .ok (.aload_n 0, 1) := by decide +kernel
theorem dX9_soonest_66 : decode cX9_soonest 66 = .ok (.getfield 19, 3) := by decide +kernel
theorem dX9_soonest_69 : decode cX9_soonest 69 = .ok (.iload_n 3, 1) := by decide +kernel
theorem dX9_soonest_70 : decode cX9_soonest 70 = .ok (.invokevirtual 326, 3) := by decide +kernel
theorem dX9_soonest_73 : decode cX9_soonest 73 = .ok (.istore 4, 2) := by decide +kernel
theorem dX9_soonest_75 : decode cX9_soonest 75 = .ok (.iload 4, 2) := by decide +kernel
theorem dX9_soonest_77 : decode cX9_soonest 77 = .ok (.iload_n 2, 1) := by decide +kernel
theorem dX9_soonest_78 : decode cX9_soonest 78 = .ok (.if_icmp .lt 17, 3) := by decide +kernel
theorem dX9_soonest_81 : decode cX9_soonest 81 = .ok (.iload 4, 2) := by decide +kernel
theorem dX9_soonest_83 : decode cX9_soonest 83 = .ok (.iload_n 2, 1) := by decide +kernel
theorem dX9_soonest_84 : decode cX9_soonest 84 = .ok (.if_icmp .ne 16, 3) := by decide +kernel
theorem dX9_soonest_87 : decode cX9_soonest 87 = .ok (.iload_n 3, 1) := by decide +kernel
theorem dX9_soonest_88 : decode cX9_soonest 88 = .ok (.iload_n 1, 1) := by decide +kernel
theorem dX9_soonest_89 : decode cX9_soonest 89 = .ok (.invokestatic 297, 3) := by decide +kernel
theorem dX9_soonest_92 : decode cX9_soonest 92 = .ok (.ifCond .eq 8, 3) := by decide +kernel
theorem dX9_soonest_95 : decode cX9_soonest 95 = .ok (.iload_n 3, 1) := by decide +kernel
theorem dX9_soonest_96 : decode cX9_soonest 96 = .ok (.istore_n 1, 1) := by decide +kernel
theorem dX9_soonest_97 : decode cX9_soonest 97 = .ok (.iload 4, 2) := by decide +kernel
theorem dX9_soonest_99 : decode cX9_soonest 99 = .ok (.istore_n 2, 1) := by decide +kernel
theorem dX9_soonest_100 : decode cX9_soonest 100 = .ok (.iinc 3 1, 3) := by decide +kernel
theorem dX9_soonest_103 : decode cX9_soonest 103 = .ok (.goto (-70), 3) := by decide +kernel
theorem dX9_soonest_106 : decode cX9_soonest 106 = .ok (.aload_n 0, 1) := by decide +kernel
theorem dX9_soonest_107 : decode cX9_soonest 107 = .ok (.iload_n 1, 1) := by decide +kernel
theorem dX9_soonest_108 : decode cX9_soonest 108 = .ok (.invokevirtual 260, 3) := by decide +kernel
theorem dX9_soonest_111 : decode cX9_soonest 111 = .ok (.iload_n 2, 1) := by decide +kernel
theorem dX9_soonest_112 : decode cX9_soonest 112 = .ok (.ireturn, 1) := by decide +kernel
theorem dX9_pays_0 : decode cX9_pays 0 = .ok (.aload_n 0, 1) := by decide +kernel
theorem dX9_pays_1 : decode cX9_pays 1 = .ok (.getfield 34, 3) := by decide +kernel
theorem dX9_pays_4 : decode cX9_pays 4 = .ok (.iload_n 1, 1) := by decide +kernel
theorem dX9_pays_5 : decode cX9_pays 5 = .ok (.invokevirtual 150, 3) := by decide +kernel
theorem dX9_pays_8 : decode cX9_pays 8 = .ok (.ifCond .ne 5, 3) := by decide +kernel
theorem dX9_pays_11 : decode cX9_pays 11 = .ok (.iconst (-1), 1) := by decide +kernel
theorem dX9_pays_12 : decode cX9_pays 12 = .ok (.ireturn, 1) := by decide +kernel
theorem dX9_pays_13 : decode cX9_pays 13 = .ok (.aload_n 0, 1) := by decide +kernel
theorem dX9_pays_14 : decode cX9_pays 14 = .ok (.getfield 19, 3) := by decide +kernel
theorem dX9_pays_17 : decode cX9_pays 17 = .ok (.invokevirtual 265, 3) := by decide +kernel
theorem dX9_pays_20 : decode cX9_pays 20 = .ok (.aload_n 0, 1) := by decide +kernel
theorem dX9_pays_21 : decode cX9_pays 21 = .ok (.getfield 19, 3) := by decide +kernel
theorem dX9_pays_24 : decode cX9_pays 24 = .ok (.iload_n 1, 1) := by decide +kernel
theorem dX9_pays_25 : decode cX9_pays 25 = .ok (.invokevirtual 268, 3) := by decide +kernel
theorem dX9_pays_28 : decode cX9_pays 28 = .ok (.istore_n 2, 1) := by decide +kernel
theorem dX9_pays_29 : decode cX9_pays 29 = .ok (.aload_n 0, 1) := by decide +kernel
theorem dX9_pays_30 : decode cX9_pays 30 = .ok (.getfield 39, 3) := by decide +kernel
theorem dX9_pays_33 : decode cX9_pays 33 = .ok (.getfield 308, 3) := by decide +kernel
theorem dX9_pays_36 : decode cX9_pays 36 = .ok (.iload_n 1, 1) := by decide +kernel
theorem dX9_pays_37 : decode cX9_pays 37 = .ok (.if_icmp .ne 7, 3) := by decide +kernel
theorem dX9_pays_40 : decode cX9_pays 40 = .ok (.iconst 0, 1) := by decide +kernel
theorem dX9_pays_41 : decode cX9_pays 41 = .ok (.goto 18, 3) := by decide +kernel
theorem dX9_pays_44 : decode cX9_pays 44 = .ok (.aload_n 0, 1) := by decide +kernel
theorem dX9_pays_45 : decode cX9_pays 45 = .ok (.getfield 34, 3) := by decide +kernel
theorem dX9_pays_48 : decode cX9_pays 48 = .ok (.aload_n 0, 1) := by decide +kernel
theorem dX9_pays_49 : decode cX9_pays 49 = .ok (.getfield 39, 3) := by decide +kernel
theorem dX9_pays_52 : decode cX9_pays 52 = .ok (.getfield 308, 3) := by decide +kernel
theorem dX9_pays_55 : decode cX9_pays 55 = .ok (.iload_n 1, 1) := by decide +kernel
theorem dX9_pays_56 : decode cX9_pays 56 = .ok (.invokevirtual 320, 3) := by decide +kernel
theorem dX9_pays_59 : decode cX9_pays 59 = .ok (.istore_n 3, 1) := by decide +kernel
theorem dX9_pays_60 : decode cX9_pays 60 = .ok (.iconst 0, 1) := by decide +kernel
theorem dX9_pays_61 : decode cX9_pays 61 = .ok (.istore 4, 2) := by decide +kernel
theorem dX9_pays_63 : decode cX9_pays 63 = .ok (.iconst 0, 1) := by decide +kernel
theorem dX9_pays_64 : decode cX9_pays 64 = .ok (.istore 5, 2) := by decide +kernel
theorem dX9_pays_66 : decode cX9_pays 66 = .ok (.iload 5, 2) := by decide +kernel
theorem dX9_pays_68 : decode cX9_pays 68 = .ok (.aload_n 0, 1) := by decide +kernel
theorem dX9_pays_69 : decode cX9_pays 69 = .ok (.getfield 34, 3) := by decide +kernel
theorem dX9_pays_72 : decode cX9_pays 72 = .ok (.getfield 341, 3) := by decide +kernel
theorem dX9_pays_75 : decode cX9_pays 75 = .ok (.if_icmp .ge 35, 3) := by decide +kernel
theorem dX9_pays_78 : decode cX9_pays 78 = .ok (.iload_n 2, 1) := by decide +kernel
theorem dX9_pays_79 : decode cX9_pays 79 = .ok (.iload 5, 2) := by decide +kernel
theorem dX9_pays_81 : decode cX9_pays 81 = .ok (.ishr, 1) := by decide +kernel
theorem dX9_pays_82 : decode cX9_pays 82 = .ok (.iconst 1, 1) := by decide +kernel
theorem dX9_pays_83 : decode cX9_pays 83 = .ok (.iand, 1) := by decide +kernel
theorem dX9_pays_84 : decode cX9_pays 84 = .ok (.ifCond .eq 20, 3) := by decide +kernel
theorem dX9_pays_87 : decode cX9_pays 87 = .ok (.iload 4, 2) := by decide +kernel
theorem dX9_pays_89 : decode cX9_pays 89 = .ok (.aload_n 0, 1) := by decide +kernel
theorem dX9_pays_90 : decode cX9_pays 90 = .ok (.getfield 27, 3) := by decide +kernel
theorem dX9_pays_93 : decode cX9_pays 93 = .ok (.iload 5, 2) := by decide +kernel
theorem dX9_pays_95 : decode cX9_pays 95 = .ok (.iload_n 1, 1) := by decide +kernel
theorem dX9_pays_96 : decode cX9_pays 96 = .ok (.iconst 0, 1) := by decide +kernel
theorem dX9_pays_97 : decode cX9_pays 97 = .ok (.iconst 0, 1) := by decide +kernel
theorem dX9_pays_98 : decode cX9_pays 98 = .ok (.invokevirtual 262, 3) := by decide +kernel
theorem dX9_pays_101 : decode cX9_pays 101 = .ok (.iadd, 1) := by decide +kernel
theorem dX9_pays_102 : decode cX9_pays 102 = .ok (.istore 4, 2) := by decide +kernel
theorem dX9_pays_104 : decode cX9_pays 104 = .ok (.iinc 5 1, 3) := by decide +kernel
theorem dX9_pays_107 : decode cX9_pays 107 = .ok (.goto (-41), 3) := by decide +kernel
theorem dX9_pays_110 : decode cX9_pays 110 = .ok (.aload_n 0, 1) := by decide +kernel
theorem dX9_pays_111 : decode cX9_pays 111 = .ok (.iload_n 3, 1) := by decide +kernel
theorem dX9_pays_112 : decode cX9_pays 112 = .ok (.iload 4, 2) := by decide +kernel
theorem dX9_pays_114 : decode cX9_pays 114 = .ok (.aload_n 0, 1) := by decide +kernel
theorem dX9_pays_115 : decode cX9_pays 115 = .ok (.getfield 34, 3) := by decide +kernel
theorem dX9_pays_118 : decode cX9_pays 118 = .ok (.iload_n 1, 1) := by decide +kernel
theorem dX9_pays_119 : decode cX9_pays 119 = .ok (.iload_n 2, 1) := by decide +kernel
theorem dX9_pays_120 : decode cX9_pays 120 = .ok (.invokestatic 292, 3) := by decide +kernel
theorem dX9_pays_123 : decode cX9_pays 123 = .ok (.invokevirtual 344, 3) := by decide +kernel
theorem dX9_pays_126 : decode cX9_pays 126 = .ok (.invokevirtual 338, 3) := by decide +kernel
theorem dX9_pays_129 : decode cX9_pays 129 = .ok (.aload_n 0, 1) := by decide +kernel
theorem dX9_pays_130 : decode cX9_pays 130 = .ok (.getfield 27, 3) := by decide +kernel
theorem dX9_pays_133 : decode cX9_pays 133 = .ok (.iload_n 2, 1) := by decide +kernel
theorem dX9_pays_134 : decode cX9_pays 134 = .ok (.invokevirtual 257, 3) := by decide +kernel
theorem dX9_pays_137 : decode cX9_pays 137 = .ok (.ireturn, 1) := by decide +kernel
theorem dX9_trips_0 : decode cX9_trips 0 = .ok (.aload_n 0, 1) := by decide +kernel
theorem dX9_trips_1 : decode cX9_trips 1 = .ok (.getfield 34, 3) := by decide +kernel
theorem dX9_trips_4 : decode cX9_trips 4 = .ok (.iload_n 1, 1) := by decide +kernel
theorem dX9_trips_5 : decode cX9_trips 5 = .ok (.invokevirtual 150, 3) := by decide +kernel
theorem dX9_trips_8 : decode cX9_trips 8 = .ok (.ifCond .ne 5, 3) := by decide +kernel
theorem dX9_trips_11 : decode cX9_trips 11 = .ok (.iconst (-1), 1) := by decide +kernel
theorem dX9_trips_12 : decode cX9_trips 12 = .ok (.ireturn, 1) := by decide +kernel
theorem dX9_trips_13 : decode cX9_trips 13 = .ok (.aload_n 0, 1) := by decide +kernel
theorem dX9_trips_14 : decode cX9_trips 14 = .ok (.getfield 19, 3) := by decide +kernel
theorem dX9_trips_17 : decode cX9_trips 17 = .ok (.invokevirtual 265, 3) := by decide +kernel
theorem dX9_trips_20 : decode cX9_trips 20 = .ok (.aload_n 0, 1) := by decide +kernel
theorem dX9_trips_21 : decode cX9_trips 21 = .ok (.getfield 39, 3) := by decide +kernel
theorem dX9_trips_24 : decode cX9_trips 24 = .ok (.getfield 308, 3) := by decide +kernel
theorem dX9_trips_27 : decode cX9_trips 27 = .ok (.iload_n 1, 1) := by decide +kernel
theorem dX9_trips_28 : decode cX9_trips 28 = .ok (.if_icmp .ne 16, 3) := by decide +kernel
theorem dX9_trips_31 : decode cX9_trips 31 = .ok (.aload_n 0, 1) := by decide +kernel
theorem dX9_trips_32 : decode cX9_trips 32 = .ok (.getfield 39, 3) := by decide +kernel
theorem dX9_trips_35 : decode cX9_trips 35 = .ok (.getfield 347, 3) := by decide +kernel
theorem dX9_trips_38 : decode cX9_trips 38 = .ok (.invokestatic 292, 3) := by decide +kernel
theorem dX9_trips_41 : decode cX9_trips 41 = .ok (.goto 4, 3) := by decide +kernel
theorem dX9_trips_44 : decode cX9_trips 44 = .ok (.iconst 0, 1) := by decide +kernel
theorem dX9_trips_45 : decode cX9_trips 45 = .ok (.istore_n 2, 1) := by decide +kernel
theorem dX9_trips_46 : decode cX9_trips 46 = .ok (.iconst 0, 1) := by decide +kernel
theorem dX9_trips_47 : decode cX9_trips 47 = .ok (.istore_n 3, 1) := by decide +kernel
theorem dX9_trips_48 : decode cX9_trips 48 = .ok (.aload_n 0, 1) := by decide +kernel
theorem dX9_trips_49 : decode cX9_trips 49 = .ok (.getfield 19, 3) := by decide +kernel
theorem dX9_trips_52 : decode cX9_trips 52 = .ok (.iload_n 1, 1) := by decide +kernel
theorem dX9_trips_53 : decode cX9_trips 53 = .ok (.invokevirtual 268, 3) := by decide +kernel
theorem dX9_trips_56 : decode cX9_trips 56 = .ok (.invokestatic 292, 3) := by decide +kernel
theorem dX9_trips_59 : decode cX9_trips 59 = .ok (.istore 4, 2) := by decide +kernel
theorem dX9_trips_61 : decode cX9_trips 61 = .ok (.iconst 0, 1) := by decide +kernel
theorem dX9_trips_62 : decode cX9_trips 62 = .ok (.istore 5, 2) := by decide +kernel
theorem dX9_trips_64 : decode cX9_trips 64 = .ok (.iload 5, 2) := by decide +kernel
theorem dX9_trips_66 : decode cX9_trips 66 = .ok (.iload 4, 2) := by decide +kernel
theorem dX9_trips_68 : decode cX9_trips 68 = .ok (.if_icmp .ge 30, 3) := by decide +kernel
theorem dX9_trips_71 : decode cX9_trips 71 = .ok (.iload_n 2, 1) := by decide +kernel
theorem dX9_trips_72 : decode cX9_trips 72 = .ok (.aload_n 0, 1) := by decide +kernel
theorem dX9_trips_73 : decode cX9_trips 73 = .ok (.getfield 34, 3) := by decide +kernel
theorem dX9_trips_76 : decode cX9_trips 76 = .ok (.getfield 168, 3) := by decide +kernel
theorem dX9_trips_79 : decode cX9_trips 79 = .ok (.iconst 4, 1) := by decide +kernel
theorem dX9_trips_80 : decode cX9_trips 80 = .ok (.iaload, 1) := by decide +kernel
theorem dX9_trips_81 : decode cX9_trips 81 = .ok (.if_icmp .lt 8, 3) := by decide +kernel
theorem dX9_trips_84 : decode cX9_trips 84 = .ok (.iinc 3 1, 3) := by decide +kernel
theorem dX9_trips_87 : decode cX9_trips 87 = .ok (.iconst 0, 1) := by decide +kernel
theorem dX9_trips_88 : decode cX9_trips 88 = .ok (.istore_n 2, 1) := by decide +kernel
theorem dX9_trips_89 : decode cX9_trips 89 = .ok (.iinc 2 1, 3) := by decide +kernel
theorem dX9_trips_92 : decode cX9_trips 92 = .ok (.iinc 5 1, 3) := by decide +kernel
theorem dX9_trips_95 : decode cX9_trips 95 = .ok (.goto (-31), 3) := by decide +kernel
theorem dX9_trips_98 : decode cX9_trips 98 = .ok (.aload_n 0, 1) := by decide +kernel
theorem dX9_trips_99 : decode cX9_trips 99 = .ok (.iload_n 2, 1) := by decide +kernel
theorem dX9_trips_100 : decode cX9_trips 100 = .ok (.invokevirtual 260, 3) := by decide +kernel
theorem dX9_trips_103 : decode cX9_trips 103 = .ok (.iload_n 3, 1) := by decide +kernel
theorem dX9_trips_104 : decode cX9_trips 104 = .ok (.ireturn, 1) := by decide +kernel
theorem dX9_helps_0 : decode cX9_helps 0 = .ok (.aload_n 0, 1) := by decide +kernel
theorem dX9_helps_1 : decode cX9_helps 1 = .ok (.getfield 19, 3) := by decide +kernel
theorem dX9_helps_4 : decode cX9_helps 4 = .ok (.iconst 0, 1) := by decide +kernel
theorem dX9_helps_5 : decode cX9_helps 5 = .ok (.aload_n 0, 1) := by decide +kernel
theorem dX9_helps_6 : decode cX9_helps 6 = .ok (.getfield 39, 3) := by decide +kernel
theorem dX9_helps_9 : decode cX9_helps 9 = .ok (.getfield 350, 3) := by decide +kernel
theorem dX9_helps_12 : decode cX9_helps 12 = .ok (.invokevirtual 353, 3) := by decide +kernel
theorem dX9_helps_15 : decode cX9_helps 15 = .ok (.aload_n 0, 1) := by decide +kernel
theorem dX9_helps_16 : decode cX9_helps 16 = .ok (.getfield 19, 3) := by decide +kernel
theorem dX9_helps_19 : decode cX9_helps 19 = .ok (.getfield 274, 3) := by decide +kernel
theorem dX9_helps_22 : decode cX9_helps 22 = .ok (.istore_n 1, 1) := by decide +kernel
theorem dX9_helps_23 : decode cX9_helps 23 = .ok (.aload_n 0, 1) := by decide +kernel
theorem dX9_helps_24 : decode cX9_helps 24 = .ok (.getfield 19, 3) := by decide +kernel
theorem dX9_helps_27 : decode cX9_helps 27 = .ok (.iload_n 1, 1) := by decide +kernel
theorem dX9_helps_28 : decode cX9_helps 28 = .ok (.aload_n 0, 1) := by decide +kernel
theorem dX9_helps_29 : decode cX9_helps 29 = .ok (.getfield 34, 3) := by decide +kernel
theorem dX9_helps_32 : decode cX9_helps 32 = .ok (.invokevirtual 277, 3) := by decide +kernel
theorem dX9_helps_35 : decode cX9_helps 35 = .ok (.invokevirtual 280, 3) := by decide +kernel
theorem dX9_helps_38 : decode cX9_helps 38 = .ok (.istore_n 2, 1) := by decide +kernel
theorem dX9_helps_39 : decode cX9_helps 39 = .ok (.aload_n 0, 1) := by decide +kernel
theorem dX9_helps_40 : decode cX9_helps 40 = .ok (.getfield 19, 3) := by decide +kernel
theorem dX9_helps_43 : decode cX9_helps 43 = .ok (.iconst 1, 1) := by decide +kernel
theorem dX9_helps_44 : decode cX9_helps 44 = .ok (.aload_n 0, 1) := by decide +kernel
theorem dX9_helps_45 : decode cX9_helps 45 = .ok (.getfield 39, 3) := by decide +kernel
theorem dX9_helps_48 : decode cX9_helps 48 = .ok (.getfield 350, 3) := by decide +kernel
theorem dX9_helps_51 : decode cX9_helps 51 = .ok (.invokevirtual 353, 3) := by decide +kernel
theorem dX9_helps_54 : decode cX9_helps 54 = .ok (.aload_n 0, 1) := by decide +kernel
theorem dX9_helps_55 : decode cX9_helps 55 = .ok (.getfield 19, 3) := by decide +kernel
theorem dX9_helps_58 : decode cX9_helps 58 = .ok (.aload_n 0, 1) := by decide +kernel
theorem dX9_helps_59 : decode cX9_helps 59 = .ok (.getfield 19, 3) := by decide +kernel
theorem dX9_helps_62 : decode cX9_helps 62 = .ok (.getfield 274, 3) := by decide +kernel
theorem dX9_helps_65 : decode cX9_helps 65 = .ok (.aload_n 0, 1) := by decide +kernel
theorem dX9_helps_66 : decode cX9_helps 66 = .ok (.getfield 34, 3) := by decide +kernel
theorem dX9_helps_69 : decode cX9_helps 69 = .ok (.invokevirtual 277, 3) := by decide +kernel
theorem dX9_helps_72 : decode cX9_helps 72 = .ok (.invokevirtual 280, 3) := by decide +kernel
theorem dX9_helps_75 : decode cX9_helps 75 = .ok (.istore_n 3, 1) := by decide +kernel
theorem dX9_helps_76 : decode cX9_helps 76 = .ok (.aload_n 0, 1) := by decide +kernel
theorem dX9_helps_77 : decode cX9_helps 77 = .ok (.iload_n 1, 1) := by decide +kernel
theorem dX9_helps_78 : decode cX9_helps 78 = .ok (.invokestatic 292, 3) := by decide +kernel
theorem dX9_helps_81 : decode cX9_helps 81 = .ok (.aload_n 0, 1) := by decide +kernel
theorem dX9_helps_82 : decode cX9_helps 82 = .ok (.getfield 19, 3) := by decide +kernel
theorem dX9_helps_85 : decode cX9_helps 85 = .ok (.getfield 274, 3) := by decide +kernel
theorem dX9_helps_88 : decode cX9_helps 88 = .ok (.invokestatic 292, 3) := by decide +kernel
theorem dX9_helps_91 : decode cX9_helps 91 = .ok (.invokevirtual 234, 3) := by decide +kernel
theorem dX9_helps_94 : decode cX9_helps 94 = .ok (.iload_n 2, 1) := by decide +kernel
theorem dX9_helps_95 : decode cX9_helps 95 = .ok (.invokestatic 292, 3) := by decide +kernel
theorem dX9_helps_98 : decode cX9_helps 98 = .ok (.iload_n 3, 1) := by decide +kernel
theorem dX9_helps_99 : decode cX9_helps 99 = .ok (.invokestatic 292, 3) := by decide +kernel
theorem dX9_helps_102 : decode cX9_helps 102 = .ok (.isub, 1) := by decide +kernel
theorem dX9_helps_103 : decode cX9_helps 103 = .ok (.ireturn, 1) := by decide +kernel
theorem dX9_hooked_0 : decode cX9_hooked 0 = .ok (.aload_n 0, 1) := by decide +kernel
theorem dX9_hooked_1 : decode cX9_hooked 1 = .ok (.getfield 19, 3) := by decide +kernel
theorem dX9_hooked_4 : decode cX9_hooked 4 = .ok (.invokevirtual 265, 3) := by decide +kernel
theorem dX9_hooked_7 : decode cX9_hooked 7 = .ok (.aload_n 0, 1) := by decide +kernel
theorem dX9_hooked_8 : decode cX9_hooked 8 = .ok (.getfield 27, 3) := by decide +kernel
theorem dX9_hooked_11 : decode cX9_hooked 11 = .ok (.invokevirtual 143, 3) := by decide +kernel
theorem dX9_hooked_14 : decode cX9_hooked 14 = .ok (.aload_n 0, 1) := by decide +kernel
theorem dX9_hooked_15 : decode cX9_hooked 15 = .ok (.getfield 34, 3) := by decide +kernel
theorem dX9_hooked_18 : decode cX9_hooked 18 = .ok (.aload_n 0, 1) := by decide +kernel
theorem dX9_hooked_19 : decode cX9_hooked 19 = .ok (.getfield 39, 3) := by decide +kernel
theorem dX9_hooked_22 : decode cX9_hooked 22 = .ok (.getfield 350, 3) := by decide +kernel
theorem dX9_hooked_25 : decode cX9_hooked 25 = .ok (.invokevirtual 356, 3) := by decide +kernel
theorem dX9_hooked_28 : decode cX9_hooked 28 = .ok (.iand, 1) := by decide +kernel
theorem dX9_hooked_29 : decode cX9_hooked 29 = .ok (.aload_n 0, 1) := by decide +kernel
theorem dX9_hooked_30 : decode cX9_hooked 30 = .ok (.getfield 19, 3) := by decide +kernel
theorem dX9_hooked_33 : decode cX9_hooked 33 = .ok (.getfield 274, 3) := by decide +kernel
theorem dX9_hooked_36 : decode cX9_hooked 36 = .ok (.iconst (-1), 1) := by decide +kernel
theorem dX9_hooked_37 : decode cX9_hooked 37 = .ok (.ixor, 1) := by decide +kernel
theorem dX9_hooked_38 : decode cX9_hooked 38 = .ok (.iand, 1) := by decide +kernel
theorem dX9_hooked_39 : decode cX9_hooked 39 = .ok (.istore_n 1, 1) := by decide +kernel
theorem dX9_hooked_40 : decode cX9_hooked 40 = .ok (.iconst 0, 1) := by decide +kernel
theorem dX9_hooked_41 : decode cX9_hooked 41 = .ok (.istore_n 2, 1) := by decide +kernel
theorem dX9_hooked_42 : decode cX9_hooked 42 = .ok (.iconst (-1), 1) := by decide +kernel
theorem dX9_hooked_43 : decode cX9_hooked 43 = .ok (.istore_n 3, 1) := by decide +kernel
theorem dX9_hooked_44 : decode cX9_hooked 44 = .ok (.iconst 0, 1) := by decide +kernel
theorem dX9_hooked_45 : decode cX9_hooked 45 = .ok (.istore 4, 2) := by decide +kernel
theorem dX9_hooked_47 : decode cX9_hooked 47 = .ok (.iconst 0, 1) := by decide +kernel
theorem dX9_hooked_48 : decode cX9_hooked 48 = .ok (.istore 5, 2) := by decide +kernel
theorem dX9_hooked_50 : decode cX9_hooked 50 = .ok (.iload 5, 2) := by decide +kernel
theorem dX9_hooked_52 : decode cX9_hooked 52 = .ok (.aload_n 0, 1) := by decide +kernel
theorem dX9_hooked_53 : decode cX9_hooked 53 = .ok (.getfield 34, 3) := by decide +kernel
theorem dX9_hooked_56 : decode cX9_hooked 56 = .ok (.getfield 250, 3) := by decide +kernel
theorem dX9_hooked_59 : decode cX9_hooked 59 = .ok (.if_icmp .ge 62, 3) := by decide +kernel
theorem dX9_hooked_62 : decode cX9_hooked 62 = .ok (.iload_n 1, 1) := by decide +kernel
theorem dX9_hooked_63 : decode cX9_hooked 63 = .ok (.aload_n 0, 1) := by decide +kernel
theorem dX9_hooked_64 : decode cX9_hooked 64 = .ok (.getfield 34, 3) := by decide +kernel
theorem dX9_hooked_67 : decode cX9_hooked 67 = .ok (.iload 5, 2) := by decide +kernel
theorem dX9_hooked_69 : decode cX9_hooked 69 = .ok (.aload_n 0, 1) := by decide +kernel
theorem dX9_hooked_70 : decode cX9_hooked 70 = .ok (.getfield 34, 3) := by decide +kernel
theorem dX9_hooked_73 : decode cX9_hooked 73 = .ok (.aload_n 0, 1) := by decide +kernel
theorem dX9_hooked_74 : decode cX9_hooked 74 = .ok (.getfield 39, 3) := by decide +kernel
theorem dX9_hooked_77 : decode cX9_hooked 77 = .ok (.getfield 247, 3) := by decide +kernel
theorem dX9_hooked_80 : decode cX9_hooked 80 = .ok (.iconst 1, 1) := by decide +kernel
theorem dX9_hooked_81 : decode cX9_hooked 81 = .ok (.invokevirtual 238, 3) := by decide +kernel
theorem dX9_hooked_84 : decode cX9_hooked 84 = .ok (.invokevirtual 241, 3) := by decide +kernel
theorem dX9_hooked_87 : decode cX9_hooked 87 = .ok (.iand, 1) := by decide +kernel
theorem dX9_hooked_88 : decode cX9_hooked 88 = .ok (.istore 6, 2) := by decide +kernel
theorem dX9_hooked_90 : decode cX9_hooked 90 = .ok (.iload_n 2, 1) := by decide +kernel
theorem dX9_hooked_91 : decode cX9_hooked 91 = .ok (.iload 6, 2) := by decide +kernel
theorem dX9_hooked_93 : decode cX9_hooked 93 = .ok (.ior, 1) := by decide +kernel
theorem dX9_hooked_94 : decode cX9_hooked 94 = .ok (.istore_n 2, 1) := by decide +kernel
theorem dX9_hooked_95 : decode cX9_hooked 95 = .ok (.iload 6, 2) := by decide +kernel
theorem dX9_hooked_97 : decode cX9_hooked 97 = .ok (.invokestatic 292, 3) := by decide +kernel
theorem dX9_hooked_100 : decode cX9_hooked 100 = .ok (.iload 4, 2) := by decide +kernel
theorem dX9_hooked_102 : decode cX9_hooked 102 = .ok (.if_icmp .le 13, 3) := by decide +kernel
theorem dX9_hooked_105 : decode cX9_hooked 105 = .ok (.iload 5, 2) := by decide +kernel
theorem dX9_hooked_107 : decode cX9_hooked 107 = .ok (.istore_n 3, 1) := by decide +kernel
theorem dX9_hooked_108 : decode cX9_hooked 108 = .ok (.iload 6, 2) := by decide +kernel
theorem dX9_hooked_110 : decode cX9_hooked 110 = .ok (.invokestatic 292, 3) := by decide +kernel
theorem dX9_hooked_113 : decode cX9_hooked 113 = .ok (.istore 4, 2) := by decide +kernel
theorem dX9_hooked_115 : decode cX9_hooked 115 = .ok (.iinc 5 1, 3) := by decide +kernel
theorem dX9_hooked_118 : decode cX9_hooked 118 = .ok (.goto (-68), 3) := by decide +kernel
theorem dX9_hooked_121 : decode cX9_hooked 121 = .ok (.aload_n 0, 1) := by decide +kernel
theorem dX9_hooked_122 : decode cX9_hooked 122 = .ok (.iload_n 3, 1) := by decide +kernel
theorem dX9_hooked_123 : decode cX9_hooked 123 = .ok (.iload 4, 2) := by decide +kernel
theorem dX9_hooked_125 : decode cX9_hooked 125 = .ok (.invokevirtual 234, 3) := by decide +kernel
theorem dX9_hooked_128 : decode cX9_hooked 128 = .ok (.iload_n 2, 1) := by decide +kernel
theorem dX9_hooked_129 : decode cX9_hooked 129 = .ok (.ireturn, 1) := by decide +kernel
theorem dX9_broken_0 : decode cX9_broken 0 = .ok (.aload_n 0, 1) := by decide +kernel
theorem dX9_broken_1 : decode cX9_broken 1 = .ok (.getfield 34, 3) := by decide +kernel
theorem dX9_broken_4 : decode cX9_broken 4 = .ok (.iload_n 1, 1) := by decide +kernel
theorem dX9_broken_5 : decode cX9_broken 5 = .ok (.invokevirtual 150, 3) := by decide +kernel
theorem dX9_broken_8 : decode cX9_broken 8 = .ok (.ifCond .ne 5, 3) := by decide +kernel
theorem dX9_broken_11 : decode cX9_broken 11 = .ok (.iconst (-1), 1) := by decide +kernel
theorem dX9_broken_12 : decode cX9_broken 12 = .ok (.ireturn, 1) := by decide +kernel
theorem dX9_broken_13 : decode cX9_broken 13 = .ok (.aload_n 0, 1) := by decide +kernel
theorem dX9_broken_14 : decode cX9_broken 14 = .ok (.getfield 19, 3) := by decide +kernel
theorem dX9_broken_17 : decode cX9_broken 17 = .ok (.invokevirtual 265, 3) := by decide +kernel
theorem dX9_broken_20 : decode cX9_broken 20 = .ok (.aload_n 0, 1) := by decide +kernel
theorem dX9_broken_21 : decode cX9_broken 21 = .ok (.getfield 34, 3) := by decide +kernel
theorem dX9_broken_24 : decode cX9_broken 24 = .ok (.invokevirtual 277, 3) := by decide +kernel
theorem dX9_broken_27 : decode cX9_broken 27 = .ok (.iconst 1, 1) := by decide +kernel
theorem dX9_broken_28 : decode cX9_broken 28 = .ok (.iload_n 1, 1) := by decide +kernel
theorem dX9_broken_29 : decode cX9_broken 29 = .ok (.ishl, 1) := by decide +kernel
theorem dX9_broken_30 : decode cX9_broken 30 = .ok (.iconst (-1), 1) := by decide +kernel
theorem dX9_broken_31 : decode cX9_broken 31 = .ok (.ixor, 1) := by decide +kernel
theorem dX9_broken_32 : decode cX9_broken 32 = .ok (.iand, 1) := by decide +kernel
theorem dX9_broken_33 : decode cX9_broken 33 = .ok (.istore_n 2, 1) := by decide +kernel
theorem dX9_broken_34 : decode cX9_broken 34 = .ok (.aload_n 0, 1) := by decide +kernel
theorem dX9_broken_35 : decode cX9_broken 35 = .ok (.getfield 19, 3) := by decide +kernel
theorem dX9_broken_38 : decode cX9_broken 38 = .ok (.getfield 274, 3) := by decide +kernel
theorem dX9_broken_41 : decode cX9_broken 41 = .ok (.aload_n 0, 1) := by decide +kernel
theorem dX9_broken_42 : decode cX9_broken 42 = .ok (.getfield 19, 3) := by decide +kernel
theorem dX9_broken_45 : decode cX9_broken 45 = .ok (.iload_n 2, 1) := by decide +kernel
theorem dX9_broken_46 : decode cX9_broken 46 = .ok (.invokevirtual 286, 3) := by decide +kernel
theorem dX9_broken_49 : decode cX9_broken 49 = .ok (.iconst (-1), 1) := by decide +kernel
theorem dX9_broken_50 : decode cX9_broken 50 = .ok (.ixor, 1) := by decide +kernel
theorem dX9_broken_51 : decode cX9_broken 51 = .ok (.iand, 1) := by decide +kernel
theorem dX9_broken_52 : decode cX9_broken 52 = .ok (.istore_n 3, 1) := by decide +kernel
theorem dX9_broken_53 : decode cX9_broken 53 = .ok (.aload_n 0, 1) := by decide +kernel
theorem dX9_broken_54 : decode cX9_broken 54 = .ok (.iload_n 3, 1) := by decide +kernel
theorem dX9_broken_55 : decode cX9_broken 55 = .ok (.invokevirtual 260, 3) := by decide +kernel
theorem dX9_broken_58 : decode cX9_broken 58 = .ok (.aload_n 0, 1) := by decide +kernel
theorem dX9_broken_59 : decode cX9_broken 59 = .ok (.getfield 19, 3) := by decide +kernel
theorem dX9_broken_62 : decode cX9_broken 62 = .ok (.aload_n 0, 1) := by decide +kernel
theorem dX9_broken_63 : decode cX9_broken 63 = .ok (.getfield 19, 3) := by decide +kernel
theorem dX9_broken_66 : decode cX9_broken 66 = .ok (.getfield 274, 3) := by decide +kernel
theorem dX9_broken_69 : decode cX9_broken 69 = .ok (.iload_n 3, 1) := by decide +kernel
theorem dX9_broken_70 : decode cX9_broken 70 = .ok (.iconst (-1), 1) := by decide +kernel
theorem dX9_broken_71 : decode cX9_broken 71 = .ok (.ixor, 1) := by decide +kernel
theorem dX9_broken_72 : decode cX9_broken 72 = .ok (.iand, 1) := by decide +kernel
theorem dX9_broken_73 : decode cX9_broken 73 = .ok (.iload_n 2, 1) := by decide +kernel
theorem dX9_broken_74 : decode cX9_broken 74 = .ok (.invokevirtual 280, 3) := by decide +kernel
theorem dX9_broken_77 : decode cX9_broken 77 = .ok (.invokestatic 292, 3) := by decide +kernel
theorem dX9_broken_80 : decode cX9_broken 80 = .ok (.ireturn, 1) := by decide +kernel
theorem dX9_sweep_0 : decode cX9_sweep 0 = .ok (.iload_n 1, 1) := by decide +kernel
theorem dX9_sweep_1 : decode cX9_sweep 1 = .ok (.ifCond .lt 10, 3) := by decide +kernel
theorem dX9_sweep_4 : decode cX9_sweep 4 = .ok (.iload_n 1, 1) := by decide +kernel
theorem dX9_sweep_5 : decode cX9_sweep 5 = .ok (.sipush 9999, 3) := by decide +kernel
theorem dX9_sweep_8 : decode cX9_sweep 8 = .ok (.if_icmp .le 5, 3) := by decide +kernel
theorem dX9_sweep_11 : decode cX9_sweep 11 = .ok (.iconst (-1), 1) := by decide +kernel
theorem dX9_sweep_12 : decode cX9_sweep 12 = .ok (.ireturn, 1) := by decide +kernel
theorem dX9_sweep_13 : decode cX9_sweep 13 = .ok (.aload_n 0, 1) := by decide +kernel
theorem dX9_sweep_14 : decode cX9_sweep 14 = .ok (.getfield 19, 3) := by decide +kernel
theorem dX9_sweep_17 : decode cX9_sweep 17 = .ok (.invokevirtual 265, 3) := by decide +kernel
theorem dX9_sweep_20 : decode cX9_sweep 20 = .ok (.aload_n 0, 1) := by decide +kernel
theorem dX9_sweep_21 : decode cX9_sweep 21 = .ok (.getfield 19, 3) := by decide +kernel
theorem dX9_sweep_24 : decode cX9_sweep 24 = .ok (.invokevirtual 323, 3) := by decide +kernel
theorem dX9_sweep_27 : decode cX9_sweep 27 = .ok (.iconst 0, 1) := by decide +kernel
theorem dX9_sweep_28 : decode cX9_sweep 28 = .ok (.istore_n 2, 1) := by decide +kernel
theorem dX9_sweep_29 : decode cX9_sweep 29 = .ok (.iconst 0, 1) := by decide +kernel
theorem dX9_sweep_30 : decode cX9_sweep 30 = .ok (.istore_n 3, 1) := by decide +kernel
theorem dX9_sweep_31 : decode cX9_sweep 31 = .ok (.iconst 0, 1) := by decide +kernel
theorem dX9_sweep_32 : decode cX9_sweep 32 = .ok (.istore 4, 2) := by decide +kernel
theorem dX9_sweep_34 : decode cX9_sweep 34 = .ok (.iconst 1, 1) := by decide +kernel
theorem dX9_sweep_35 : decode cX9_sweep 35 = .ok (.istore 5, 2) := by decide +kernel
theorem dX9_sweep_37 : decode cX9_sweep 37 = .ok (.iload 5, 2) := by decide +kernel
theorem dX9_sweep_39 : decode cX9_sweep 39 = .ok (.aload_n 0, 1) := by decide +kernel
theorem dX9_sweep_40 : decode cX9_sweep 40 = .ok (.getfield 34, 3) := by decide +kernel
theorem dX9_sweep_43 : decode cX9_sweep 43 = .ok (.invokevirtual 277, 3) := by decide +kernel
theorem dX9_sweep_46 : decode cX9_sweep 46 = .ok (.if_icmp .gt 81, 3) := by decide +kernel
theorem dX9_sweep_49 : decode cX9_sweep 49 = .ok (.aload_n 0, 1) := by decide +kernel
theorem dX9_sweep_50 : decode cX9_sweep 50 = .ok (.getfield 27, 3) := by decide +kernel
theorem dX9_sweep_53 : decode cX9_sweep 53 = .ok (.aload_n 0, 1) := by decide +kernel
theorem dX9_sweep_54 : decode cX9_sweep 54 = .ok (.getfield 19, 3) := by decide +kernel
theorem dX9_sweep_57 : decode cX9_sweep 57 = .ok (.getfield 274, 3) := by decide +kernel
theorem dX9_sweep_60 : decode cX9_sweep 60 = .ok (.aload_n 0, 1) := by decide +kernel
theorem dX9_sweep_61 : decode cX9_sweep 61 = .ok (.getfield 19, 3) := by decide +kernel
theorem dX9_sweep_64 : decode cX9_sweep 64 = .ok (.iload 5, 2) := by decide +kernel
theorem dX9_sweep_66 : decode cX9_sweep 66 = .ok (.invokevirtual 286, 3) := by decide +kernel
theorem dX9_sweep_69 : decode cX9_sweep 69 = .ok (.iand, 1) := by decide +kernel
theorem dX9_sweep_70 : decode cX9_sweep 70 = .ok (.invokevirtual 257, 3) := by decide +kernel
theorem dX9_sweep_73 : decode cX9_sweep 73 = .ok (.istore 6, 2) := by decide +kernel
theorem dX9_sweep_75 : decode cX9_sweep 75 = .ok (.iload 6, 2) := by decide +kernel
theorem dX9_sweep_77 : decode cX9_sweep 77 = .ok (.iload_n 3, 1) := by decide +kernel
theorem dX9_sweep_78 : decode cX9_sweep 78 = .ok (.if_icmp .lt 43, 3) := by decide +kernel
theorem dX9_sweep_81 : decode cX9_sweep 81 = .ok (.aload_n 0, 1) := by decide +kernel
theorem dX9_sweep_82 : decode cX9_sweep 82 = .ok (.getfield 19, 3) := by decide +kernel
theorem dX9_sweep_85 : decode cX9_sweep 85 = .ok (.iload 5, 2) := by decide +kernel
theorem dX9_sweep_87 : decode cX9_sweep 87 = .ok (.invokevirtual 326, 3) := by decide +kernel
theorem dX9_sweep_90 : decode cX9_sweep 90 = .ok (.istore 7, 2) := by decide +kernel
theorem dX9_sweep_92 : decode cX9_sweep 92 = .ok (.iload 7, 2) := by decide +kernel
theorem dX9_sweep_94 : decode cX9_sweep 94 = .ok (.iload_n 1, 1) := by decide +kernel
theorem dX9_sweep_95 : decode cX9_sweep 95 = .ok (.if_icmp .gt 26, 3) := by decide +kernel
theorem dX9_sweep_98 : decode cX9_sweep 98 = .ok (.iload 6, 2) := by decide +kernel
theorem dX9_sweep_100 : decode cX9_sweep 100 = .ok (.iload_n 3, 1) := by decide +kernel
theorem dX9_sweep_101 : decode cX9_sweep 101 = .ok (.if_icmp .gt 10, 3) := by decide +kernel
theorem dX9_sweep_104 : decode cX9_sweep 104 = .ok (.iload 7, 2) := by decide +kernel
theorem dX9_sweep_106 : decode cX9_sweep 106 = .ok (.iload 4, 2) := by decide +kernel
theorem dX9_sweep_108 : decode cX9_sweep 108 = .ok (.if_icmp .ge 13, 3) := by decide +kernel
theorem dX9_sweep_111 : decode cX9_sweep 111 = .ok (.iload 5, 2) := by decide +kernel
theorem dX9_sweep_113 : decode cX9_sweep 113 = .ok (.istore_n 2, 1) := by decide +kernel
theorem dX9_sweep_114 : decode cX9_sweep 114 = .ok (.iload 6, 2) := by decide +kernel
theorem dX9_sweep_116 : decode cX9_sweep 116 = .ok (.istore_n 3, 1) := by decide +kernel
theorem dX9_sweep_117 : decode cX9_sweep 117 = .ok (.iload 7, 2) := by decide +kernel
theorem dX9_sweep_119 : decode cX9_sweep 119 = .ok (.istore 4, 2) := by decide +kernel
theorem dX9_sweep_121 : decode cX9_sweep 121 = .ok (.iinc 5 1, 3) := by decide +kernel
theorem dX9_sweep_124 : decode cX9_sweep 124 = .ok (.goto (-87), 3) := by decide +kernel
theorem dX9_sweep_127 : decode cX9_sweep 127 = .ok (.aload_n 0, 1) := by decide +kernel
theorem dX9_sweep_128 : decode cX9_sweep 128 = .ok (.iload_n 2, 1) := by decide +kernel
theorem dX9_sweep_129 : decode cX9_sweep 129 = .ok (.iload 4, 2) := by decide +kernel
theorem dX9_sweep_131 : decode cX9_sweep 131 = .ok (.invokevirtual 234, 3) := by decide +kernel
theorem dX9_sweep_134 : decode cX9_sweep 134 = .ok (.iload_n 3, 1) := by decide +kernel
theorem dX9_sweep_135 : decode cX9_sweep 135 = .ok (.ireturn, 1) := by decide +kernel
theorem dX5_addToDusk_0 : decode cX5_addToDusk 0 = .ok (.iload_n 1, 1) := by decide +kernel
theorem dX5_addToDusk_1 : decode cX5_addToDusk 1 = .ok (.istore 4, 2) := by decide +kernel
theorem dX5_addToDusk_3 : decode cX5_addToDusk 3 = .ok (.iload 4, 2) := by decide +kernel
theorem dX5_addToDusk_5 : decode cX5_addToDusk 5 = .ok (.iload_n 2, 1) := by decide +kernel
theorem dX5_addToDusk_6 : decode cX5_addToDusk 6 = .ok (.if_icmp .lt 52, 3) := by decide +kernel
theorem dX5_addToDusk_9 : decode cX5_addToDusk 9 = .ok (.aload_n 0, 1) := by decide +kernel
theorem dX5_addToDusk_10 : decode cX5_addToDusk 10 = .ok (.getfield 38, 3) := by decide +kernel
theorem dX5_addToDusk_13 : decode cX5_addToDusk 13 = .ok (.iload 4, 2) := by decide +kernel
theorem dX5_addToDusk_15 : decode cX5_addToDusk 15 = .ok (.iload_n 2, 1) := by decide +kernel
theorem dX5_addToDusk_16 : decode cX5_addToDusk 16 = .ok (.isub, 1) := by decide +kernel
theorem dX5_addToDusk_17 : decode cX5_addToDusk 17 = .ok (.iaload, 1) := by decide +kernel
theorem dX5_addToDusk_18 : decode cX5_addToDusk 18 = .ok (.istore 5, 2) := by decide +kernel
theorem dX5_addToDusk_20 : decode cX5_addToDusk 20 = .ok (.iload 5, 2) := by decide +kernel
theorem dX5_addToDusk_22 : decode cX5_addToDusk 22 = .ok (.ldc 136, 2) := by decide +kernel
theorem dX5_addToDusk_24 : decode cX5_addToDusk 24 = .ok (.if_icmp .eq 28, 3) := by decide +kernel
theorem dX5_addToDusk_27 : decode cX5_addToDusk 27 = .ok (.iload 5, 2) := by decide +kernel
theorem dX5_addToDusk_29 : decode cX5_addToDusk 29 = .ok (.iload_n 3, 1) := by decide +kernel
theorem dX5_addToDusk_30 : decode cX5_addToDusk 30 = .ok (.iadd, 1) := by decide +kernel
theorem dX5_addToDusk_31 : decode cX5_addToDusk 31 = .ok (.aload_n 0, 1) := by decide +kernel
theorem dX5_addToDusk_32 : decode cX5_addToDusk 32 = .ok (.getfield 38, 3) := by decide +kernel
theorem dX5_addToDusk_35 : decode cX5_addToDusk 35 = .ok (.iload 4, 2) := by decide +kernel
theorem dX5_addToDusk_37 : decode cX5_addToDusk 37 = .ok (.iaload, 1) := by decide +kernel
theorem dX5_addToDusk_38 : decode cX5_addToDusk 38 = .ok (.if_icmp .le 14, 3) := by decide +kernel
theorem dX5_addToDusk_41 : decode cX5_addToDusk 41 = .ok (.aload_n 0, 1) := by decide +kernel
theorem dX5_addToDusk_42 : decode cX5_addToDusk 42 = .ok (.getfield 38, 3) := by decide +kernel
theorem dX5_addToDusk_45 : decode cX5_addToDusk 45 = .ok (.iload 4, 2) := by decide +kernel
theorem dX5_addToDusk_47 : decode cX5_addToDusk 47 = .ok (.iload 5, 2) := by decide +kernel
theorem dX5_addToDusk_49 : decode cX5_addToDusk 49 = .ok (.iload_n 3, 1) := by decide +kernel
theorem dX5_addToDusk_50 : decode cX5_addToDusk 50 = .ok (.iadd, 1) := by decide +kernel
theorem dX5_addToDusk_51 : decode cX5_addToDusk 51 = .ok (.iastore, 1) := by decide +kernel
theorem dX5_addToDusk_52 : decode cX5_addToDusk 52 = .ok (.iinc 4 (-1), 3) := by decide +kernel
theorem dX5_addToDusk_55 : decode cX5_addToDusk 55 = .ok (.goto (-52), 3) := by decide +kernel
theorem dX5_addToDusk_58 : decode cX5_addToDusk 58 = .ok (.return_, 1) := by decide +kernel
theorem dX5_fillDusk_0 : decode cX5_fillDusk 0 = .ok (.iload_n 1, 1) := by decide +kernel
theorem dX5_fillDusk_1 : decode cX5_fillDusk 1 = .ok (.sipush 300, 3) := by decide +kernel
theorem dX5_fillDusk_4 : decode cX5_fillDusk 4 = .ok (.invokestatic 131, 3) := by decide +kernel
theorem dX5_fillDusk_7 : decode cX5_fillDusk 7 = .ok (.istore_n 2, 1) := by decide +kernel
theorem dX5_fillDusk_8 : decode cX5_fillDusk 8 = .ok (.aload_n 0, 1) := by decide +kernel
theorem dX5_fillDusk_9 : decode cX5_fillDusk 9 = .ok (.getfield 38, 3) := by decide +kernel
theorem dX5_fillDusk_12 : decode cX5_fillDusk 12 = .ok (.iconst 0, 1) := by decide +kernel
theorem dX5_fillDusk_13 : decode cX5_fillDusk 13 = .ok (.iconst 0, 1) := by decide +kernel
theorem dX5_fillDusk_14 : decode cX5_fillDusk 14 = .ok (.iastore, 1) := by decide +kernel
theorem dX5_fillDusk_15 : decode cX5_fillDusk 15 = .ok (.iconst 1, 1) := by decide +kernel
theorem dX5_fillDusk_16 : decode cX5_fillDusk 16 = .ok (.istore_n 3, 1) := by decide +kernel
theorem dX5_fillDusk_17 : decode cX5_fillDusk 17 = .ok (.iload_n 3, 1) := by decide +kernel
theorem dX5_fillDusk_18 : decode cX5_fillDusk 18 = .ok (.iload_n 2, 1) := by decide +kernel
theorem dX5_fillDusk_19 : decode cX5_fillDusk 19 = .ok (.if_icmp .gt 17, 3) := by decide +kernel
theorem dX5_fillDusk_22 : decode cX5_fillDusk 22 = .ok (.aload_n 0, 1) := by decide +kernel
theorem dX5_fillDusk_23 : decode cX5_fillDusk 23 = .ok (.getfield 38, 3) := by decide +kernel
theorem dX5_fillDusk_26 : decode cX5_fillDusk 26 = .ok (.iload_n 3, 1) := by decide +kernel
theorem dX5_fillDusk_27 : decode cX5_fillDusk 27 = .ok (.ldc 136, 2) := by decide +kernel
theorem dX5_fillDusk_29 : decode cX5_fillDusk 29 = .ok (.iastore, 1) := by decide +kernel
theorem dX5_fillDusk_30 : decode cX5_fillDusk 30 = .ok (.iinc 3 1, 3) := by decide +kernel
theorem dX5_fillDusk_33 : decode cX5_fillDusk 33 = .ok (.goto (-16), 3) := by decide +kernel
theorem dX5_fillDusk_36 : decode cX5_fillDusk 36 = .ok (.aload_n 0, 1) := by decide +kernel
theorem dX5_fillDusk_37 : decode cX5_fillDusk 37 = .ok (.getfield 14, 3) := by decide +kernel
theorem dX5_fillDusk_40 : decode cX5_fillDusk 40 = .ok (.invokevirtual 137, 3) := by decide +kernel
theorem dX5_fillDusk_43 : decode cX5_fillDusk 43 = .ok (.istore_n 3, 1) := by decide +kernel
theorem dX5_fillDusk_44 : decode cX5_fillDusk 44 = .ok (.iconst 0, 1) := by decide +kernel
theorem dX5_fillDusk_45 : decode cX5_fillDusk 45 = .ok (.istore 4, 2) := by decide +kernel
theorem dX5_fillDusk_47 : decode cX5_fillDusk 47 = .ok (.iload 4, 2) := by decide +kernel
theorem dX5_fillDusk_49 : decode cX5_fillDusk 49 = .ok (.aload_n 0, 1) := by decide +kernel
theorem dX5_fillDusk_50 : decode cX5_fillDusk 50 = .ok (.getfield 24, 3) := by decide +kernel
theorem dX5_fillDusk_53 : decode cX5_fillDusk 53 = .ok (.getfield 97, 3) := by decide +kernel
theorem dX5_fillDusk_56 : decode cX5_fillDusk 56 = .ok (.if_icmp .ge 73, 3) := by decide +kernel
theorem dX5_fillDusk_59 : decode cX5_fillDusk 59 = .ok (.iload_n 3, 1) := by decide +kernel
theorem dX5_fillDusk_60 : decode cX5_fillDusk 60 = .ok (.iload 4, 2) := by decide +kernel
theorem dX5_fillDusk_62 : decode cX5_fillDusk 62 = .ok (.ishr, 1) := by decide +kernel
theorem dX5_fillDusk_63 : decode cX5_fillDusk 63 = .ok (.iconst 1, 1) := by decide +kernel
theorem dX5_fillDusk_64 : decode cX5_fillDusk 64 = .ok (.iand, 1) := by decide +kernel
theorem dX5_fillDusk_65 : decode cX5_fillDusk 65 = .ok (.ifCond .eq 58, 3) := by decide +kernel
theorem dX5_fillDusk_68 : decode cX5_fillDusk 68 = .ok (.iconst 1, 1) := by decide +kernel
theorem dX5_fillDusk_69 : decode cX5_fillDusk 69 = .ok (.iload 4, 2) := by decide +kernel
theorem dX5_fillDusk_71 : decode cX5_fillDusk 71 = .ok (.ishl, 1) := by decide +kernel
theorem dX5_fillDusk_72 : decode cX5_fillDusk 72 = .ok (.istore 5, 2) := by decide +kernel
theorem dX5_fillDusk_74 : decode cX5_fillDusk 74 = .ok (.aload_n 0, 1) := by decide +kernel
theorem dX5_fillDusk_75 : decode cX5_fillDusk 75 = .ok (.getfield 14, 3) := by decide +kernel
theorem dX5_fillDusk_78 : decode cX5_fillDusk 78 = .ok (.iload 4, 2) := by decide +kernel
theorem dX5_fillDusk_80 : decode cX5_fillDusk 80 = .ok (.aload_n 0, 1) := by decide +kernel
theorem dX5_fillDusk_81 : decode cX5_fillDusk 81 = .ok (.getfield 14, 3) := by decide +kernel
theorem dX5_fillDusk_84 : decode cX5_fillDusk 84 = .ok (.getfield 41, 3) := by decide +kernel
theorem dX5_fillDusk_87 : decode cX5_fillDusk 87 = .ok (.getfield 119, 3) := by decide +kernel
theorem dX5_fillDusk_90 : decode cX5_fillDusk 90 = .ok (.iconst 0, 1) := by decide +kernel
theorem dX5_fillDusk_91 : decode cX5_fillDusk 91 = .ok (.iconst 0, 1) := by decide +kernel
theorem dX5_fillDusk_92 : decode cX5_fillDusk 92 = .ok (.invokevirtual 103, 3) := by decide +kernel
theorem dX5_fillDusk_95 : decode cX5_fillDusk 95 = .ok (.istore 6, 2) := by decide +kernel
theorem dX5_fillDusk_97 : decode cX5_fillDusk 97 = .ok (.aload_n 0, 1) := by decide +kernel
theorem dX5_fillDusk_98 : decode cX5_fillDusk 98 = .ok (.iload_n 2, 1) := by decide +kernel
theorem dX5_fillDusk_99 : decode cX5_fillDusk 99 = .ok (.iconst 1, 1) := by decide +kernel
theorem dX5_fillDusk_100 : decode cX5_fillDusk 100 = .ok (.iload 6, 2) := by decide +kernel
theorem dX5_fillDusk_102 : decode cX5_fillDusk 102 = .ok (.invokestatic 140, 3) := by decide +kernel
theorem dX5_fillDusk_105 : decode cX5_fillDusk 105 = .ok (.aload_n 0, 1) := by decide +kernel
theorem dX5_fillDusk_106 : decode cX5_fillDusk 106 = .ok (.getfield 14, 3) := by decide +kernel
theorem dX5_fillDusk_109 : decode cX5_fillDusk 109 = .ok (.iload 5, 2) := by decide +kernel
theorem dX5_fillDusk_111 : decode cX5_fillDusk 111 = .ok (.invokevirtual 87, 3) := by decide +kernel
theorem dX5_fillDusk_114 : decode cX5_fillDusk 114 = .ok (.bipush 16, 2) := by decide +kernel
theorem dX5_fillDusk_116 : decode cX5_fillDusk 116 = .ok (.ishl, 1) := by decide +kernel
theorem dX5_fillDusk_117 : decode cX5_fillDusk 117 = .ok (.iload 5, 2) := by decide +kernel
theorem dX5_fillDusk_119 : decode cX5_fillDusk 119 = .ok (.isub, 1) := by decide +kernel
theorem dX5_fillDusk_120 : decode cX5_fillDusk 120 = .ok (.invokevirtual 143, 3) := by decide +kernel
theorem dX5_fillDusk_123 : decode cX5_fillDusk 123 = .ok (.iinc 4 1, 3) := by decide +kernel
theorem dX5_fillDusk_126 : decode cX5_fillDusk 126 = .ok (.goto (-79), 3) := by decide +kernel
theorem dX5_fillDusk_129 : decode cX5_fillDusk 129 = .ok (.return_, 1) := by decide +kernel
theorem dX5_duskWorth_0 : decode cX5_duskWorth 0 = .ok (.aload_n 0, 1) := by decide +kernel
theorem dX5_duskWorth_1 : decode cX5_duskWorth 1 = .ok (.getfield 38, 3) := by decide +kernel
theorem dX5_duskWorth_4 : decode cX5_duskWorth 4 = .ok (.iload_n 1, 1) := by decide +kernel
theorem dX5_duskWorth_5 : decode cX5_duskWorth 5 = .ok (.iaload, 1) := by decide +kernel
theorem dX5_duskWorth_6 : decode cX5_duskWorth 6 = .ok (.ldc 136, 2) := by decide +kernel
theorem dX5_duskWorth_8 : decode cX5_duskWorth 8 = .ok (.if_icmp .ne 7, 3) := by decide +kernel
theorem dX5_duskWorth_11 : decode cX5_duskWorth 11 = .ok (.iconst (-1), 1) := by decide +kernel
theorem dX5_duskWorth_12 : decode cX5_duskWorth 12 = .ok (.goto 15, 3) := by decide +kernel
theorem dX5_duskWorth_15 : decode cX5_duskWorth 15 = .ok (.aload_n 0, 1) := by decide +kernel
theorem dX5_duskWorth_16 : decode cX5_duskWorth 16 = .ok (.getfield 38, 3) := by decide +kernel
theorem dX5_duskWorth_19 : decode cX5_duskWorth 19 = .ok (.iload_n 1, 1) := by decide +kernel
theorem dX5_duskWorth_20 : decode cX5_duskWorth 20 = .ok (.iaload, 1) := by decide +kernel
theorem dX5_duskWorth_21 : decode cX5_duskWorth 21 = .ok (.ldc 147, 2) := by decide +kernel
theorem dX5_duskWorth_23 : decode cX5_duskWorth 23 = .ok (.iadd, 1) := by decide +kernel
theorem dX5_duskWorth_24 : decode cX5_duskWorth 24 = .ok (.bipush 16, 2) := by decide +kernel
theorem dX5_duskWorth_26 : decode cX5_duskWorth 26 = .ok (.ishr, 1) := by decide +kernel
theorem dX5_duskWorth_27 : decode cX5_duskWorth 27 = .ok (.ireturn, 1) := by decide +kernel
theorem dX5_duskFruits_0 : decode cX5_duskFruits 0 = .ok (.aload_n 0, 1) := by decide +kernel
theorem dX5_duskFruits_1 : decode cX5_duskFruits 1 = .ok (.getfield 38, 3) := by decide +kernel
theorem dX5_duskFruits_4 : decode cX5_duskFruits 4 = .ok (.iload_n 1, 1) := by decide +kernel
theorem dX5_duskFruits_5 : decode cX5_duskFruits 5 = .ok (.iaload, 1) := by decide +kernel
theorem dX5_duskFruits_6 : decode cX5_duskFruits 6 = .ok (.ldc 136, 2) := by decide +kernel
theorem dX5_duskFruits_8 : decode cX5_duskFruits 8 = .ok (.if_icmp .ne 7, 3) := by decide +kernel
theorem dX5_duskFruits_11 : decode cX5_duskFruits 11 = .ok (.iconst 0, 1) := by decide +kernel
theorem dX5_duskFruits_12 : decode cX5_duskFruits 12 = .ok (.goto 13, 3) := by decide +kernel
theorem dX5_duskFruits_15 : decode cX5_duskFruits 15 = .ok (.aload_n 0, 1) := by decide +kernel
theorem dX5_duskFruits_16 : decode cX5_duskFruits 16 = .ok (.getfield 38, 3) := by decide +kernel
theorem dX5_duskFruits_19 : decode cX5_duskFruits 19 = .ok (.iload_n 1, 1) := by decide +kernel
theorem dX5_duskFruits_20 : decode cX5_duskFruits 20 = .ok (.iaload, 1) := by decide +kernel
theorem dX5_duskFruits_21 : decode cX5_duskFruits 21 = .ok (.ineg, 1) := by decide +kernel
theorem dX5_duskFruits_22 : decode cX5_duskFruits 22 = .ok (.ldc 147, 2) := by decide +kernel
theorem dX5_duskFruits_24 : decode cX5_duskFruits 24 = .ok (.iand, 1) := by decide +kernel
theorem dX5_duskFruits_25 : decode cX5_duskFruits 25 = .ok (.ireturn, 1) := by decide +kernel
theorem dX9_dusk_0 : decode cX9_dusk 0 = .ok (.iload_n 1, 1) := by decide +kernel
theorem dX9_dusk_1 : decode cX9_dusk 1 = .ok (.ifCond .lt 10, 3) := by decide +kernel
theorem dX9_dusk_4 : decode cX9_dusk 4 = .ok (.iload_n 1, 1) := by decide +kernel
theorem dX9_dusk_5 : decode cX9_dusk 5 = .ok (.sipush 300, 3) := by decide +kernel
theorem dX9_dusk_8 : decode cX9_dusk 8 = .ok (.if_icmp .le 5, 3) := by decide +kernel
theorem dX9_dusk_11 : decode cX9_dusk 11 = .ok (.iconst (-1), 1) := by decide +kernel
theorem dX9_dusk_12 : decode cX9_dusk 12 = .ok (.ireturn, 1) := by decide +kernel
theorem dX9_dusk_13 : decode cX9_dusk 13 = .ok (.aload_n 0, 1) := by decide +kernel
theorem dX9_dusk_14 : decode cX9_dusk 14 = .ok (.getfield 39, 3) := by decide +kernel
theorem dX9_dusk_17 : decode cX9_dusk 17 = .ok (.getfield 308, 3) := by decide +kernel
theorem dX9_dusk_20 : decode cX9_dusk 20 = .ok (.iconst (-1), 1) := by decide +kernel
theorem dX9_dusk_21 : decode cX9_dusk 21 = .ok (.if_icmp .ne 6, 3) := by decide +kernel
theorem dX9_dusk_24 : decode cX9_dusk 24 = .ok (.bipush (-2), 2) := by decide +kernel
theorem dX9_dusk_26 : decode cX9_dusk 26 = .ok (.ireturn, 1) := by decide +kernel
theorem dX9_dusk_27 : decode cX9_dusk 27 = .ok (.aload_n 0, 1) := by decide +kernel
theorem dX9_dusk_28 : decode cX9_dusk 28 = .ok (.getfield 19, 3) := by decide +kernel
theorem dX9_dusk_31 : decode cX9_dusk 31 = .ok (.iload_n 1, 1) := by decide +kernel
theorem dX9_dusk_32 : decode cX9_dusk 32 = .ok (.invokevirtual 359, 3) := by decide +kernel
theorem dX9_dusk_35 : decode cX9_dusk 35 = .ok (.iconst 0, 1) := by decide +kernel
theorem dX9_dusk_36 : decode cX9_dusk 36 = .ok (.istore_n 2, 1) := by decide +kernel
theorem dX9_dusk_37 : decode cX9_dusk 37 = .ok (.iconst 0, 1) := by decide +kernel
theorem dX9_dusk_38 : decode cX9_dusk 38 = .ok (.istore_n 3, 1) := by decide +kernel
theorem dX9_dusk_39 : decode cX9_dusk 39 = .ok (.iconst 0, 1) := by decide +kernel
theorem dX9_dusk_40 : decode cX9_dusk 40 = .ok (.istore 4, 2) := by decide +kernel
theorem dX9_dusk_42 : decode cX9_dusk 42 = .ok (.iconst 1, 1) := by decide +kernel
theorem dX9_dusk_43 : decode cX9_dusk 43 = .ok (.istore 5, 2) := by decide +kernel
theorem dX9_dusk_45 : decode cX9_dusk 45 = .ok (.iload 5, 2) := by decide +kernel
theorem dX9_dusk_47 : decode cX9_dusk 47 = .ok (.iload_n 1, 1) := by decide +kernel
theorem dX9_dusk_48 : decode cX9_dusk 48 = .ok (.if_icmp .gt 43, 3) := by decide +kernel
