theorem dX10_work_18 : decode cX10_work 18 = .ok (.ireturn, 1) := by decide +kernel
theorem dX10_work_19 : decode cX10_work 19 = .ok (.aload_n 0, 1) := by decide +kernel
theorem dX10_work_20 : decode cX10_work 20 = .ok (.invokevirtual 349, 3) := by decide +kernel
theorem dX10_work_23 : decode cX10_work 23 = .ok (.aload_n 0, 1) := by decide +kernel
theorem dX10_work_24 : decode cX10_work 24 = .ok (.invokevirtual 364, 3) := by decide +kernel
theorem dX10_work_27 : decode cX10_work 27 = .ok (.aload_n 0, 1) := by decide +kernel
theorem dX10_work_28 : decode cX10_work 28 = .ok (.invokevirtual 382, 3) := by decide +kernel
theorem dX10_work_31 : decode cX10_work 31 = .ok (.aload_n 0, 1) := by decide +kernel
theorem dX10_work_32 : decode cX10_work 32 = .ok (.iload_n 1, 1) := by decide +kernel
theorem dX10_work_33 : decode cX10_work 33 = .ok (.invokevirtual 385, 3) := by decide +kernel
theorem dX10_work_36 : decode cX10_work 36 = .ok (.istore_n 2, 1) := by decide +kernel
theorem dX10_work_37 : decode cX10_work 37 = .ok (.aload_n 0, 1) := by decide +kernel
theorem dX10_work_38 : decode cX10_work 38 = .ok (.iconst 0, 1) := by decide +kernel
theorem dX10_work_39 : decode cX10_work 39 = .ok (.putfield 91, 3) := by decide +kernel
theorem dX10_work_42 : decode cX10_work 42 = .ok (.aload_n 0, 1) := by decide +kernel
theorem dX10_work_43 : decode cX10_work 43 = .ok (.aload_n 0, 1) := by decide +kernel
theorem dX10_work_44 : decode cX10_work 44 = .ok (.getfield 373, 3) := by decide +kernel
theorem dX10_work_47 : decode cX10_work 47 = .ok (.invokevirtual 322, 3) := by decide +kernel
theorem dX10_work_50 : decode cX10_work 50 = .ok (.aload_n 0, 1) := by decide +kernel
theorem dX10_work_51 : decode cX10_work 51 = .ok (.aload_n 0, 1) := by decide +kernel
theorem dX10_work_52 : decode cX10_work 52 = .ok (.getfield 376, 3) := by decide +kernel
theorem dX10_work_55 : decode cX10_work 55 = .ok (.invokevirtual 322, 3) := by decide +kernel
theorem dX10_work_58 : decode cX10_work 58 = .ok (.aload_n 0, 1) := by decide +kernel
theorem dX10_work_59 : decode cX10_work 59 = .ok (.aload_n 0, 1) := by decide +kernel
theorem dX10_work_60 : decode cX10_work 60 = .ok (.getfield 379, 3) := by decide +kernel
theorem dX10_work_63 : decode cX10_work 63 = .ok (.invokevirtual 322, 3) := by decide +kernel
theorem dX10_work_66 : decode cX10_work 66 = .ok (.iload_n 2, 1) := by decide +kernel
theorem dX10_work_67 : decode cX10_work 67 = .ok (.ireturn, 1) := by decide +kernel
theorem dX10_soonest_0 : decode cX10_soonest 0 = .ok (.aload_n 0, 1) := by decide +kernel
theorem dX10_soonest_1 : decode cX10_soonest 1 = .ok (.iconst 0, 1) := by decide +kernel
theorem dX10_soonest_2 : decode cX10_soonest 2 = .ok (.putfield 87, 3) := by decide +kernel
theorem dX10_soonest_5 : decode cX10_soonest 5 = .ok (.aload_n 0, 1) := by decide +kernel
theorem dX10_soonest_6 : decode cX10_soonest 6 = .ok (.invokevirtual 349, 3) := by decide +kernel
theorem dX10_soonest_9 : decode cX10_soonest 9 = .ok (.aload_n 0, 1) := by decide +kernel
theorem dX10_soonest_10 : decode cX10_soonest 10 = .ok (.invokevirtual 364, 3) := by decide +kernel
theorem dX10_soonest_13 : decode cX10_soonest 13 = .ok (.aload_n 0, 1) := by decide +kernel
theorem dX10_soonest_14 : decode cX10_soonest 14 = .ok (.invokevirtual 382, 3) := by decide +kernel
theorem dX10_soonest_17 : decode cX10_soonest 17 = .ok (.iconst (-1), 1) := by decide +kernel
theorem dX10_soonest_18 : decode cX10_soonest 18 = .ok (.istore_n 1, 1) := by decide +kernel
theorem dX10_soonest_19 : decode cX10_soonest 19 = .ok (.ldc_w 360, 3) := by decide +kernel
theorem dX10_soonest_22 : decode cX10_soonest 22 = .ok (.istore_n 2, 1) := by decide +kernel
theorem dX10_soonest_23 : decode cX10_soonest 23 = .ok (.iconst 0, 1) := by decide +kernel
theorem dX10_soonest_24 : decode cX10_soonest 24 = .ok (.istore_n 3, 1) := by decide +kernel
theorem dX10_soonest_25 : decode cX10_soonest 25 = .ok (.iload_n 3, 1) := by decide +kernel
theorem dX10_soonest_26 : decode cX10_soonest 26 = .ok (.aload_n 0, 1) := by decide +kernel
theorem dX10_soonest_27 : decode cX10_soonest 27 = .ok (.invokevirtual 331, 3) := by decide +kernel
theorem dX10_soonest_30 : decode cX10_soonest 30 = .ok (.if_icmp .gt 65, 3) := by decide +kernel
theorem dX10_soonest_33 : decode cX10_soonest 33 = .ok (.aload_n 0, 1) := by decide +kernel
theorem dX10_soonest_34 : decode cX10_soonest 34 = .ok (.getfield 337, 3) := by decide +kernel
theorem dX10_soonest_37 : decode cX10_soonest 37 = .ok (.aload_n 0, 1) := by decide +kernel
theorem dX10_soonest_38 : decode cX10_soonest 38 = .ok (.iload_n 3, 1) := by decide +kernel
theorem dX10_soonest_39 : decode cX10_soonest 39 = .ok (.invokevirtual 334, 3) := by decide +kernel
theorem dX10_soonest_42 : decode cX10_soonest 42 = .ok (.iconst (-1), 1) := by decide +kernel
theorem dX10_soonest_43 : decode cX10_soonest 43 = .ok (.ixor, 1) := by decide +kernel
theorem dX10_soonest_44 : decode cX10_soonest 44 = .ok (.iand, 1) := by decide +kernel
theorem dX10_soonest_45 : decode cX10_soonest 45 = .ok (.ifCond .eq 6, 3) := by decide +kernel
theorem dX10_soonest_48 : decode cX10_soonest 48 = .ok (.goto 41, 3) := by decide +kernel
theorem dX10_soonest_51 : decode cX10_soonest 51 = .ok (.aload_n 0, 1) := by decide +kernel
theorem dX10_soonest_52 : decode cX10_soonest 52 = .ok (.iload_n 3, 1) := by decide +kernel
theorem dX10_soonest_53 : decode cX10_soonest 53 = .ok (.invokevirtual 385, 3) := by decide +kernel
theorem dX10_soonest_56 : decode cX10_soonest 56 = .ok (.istore 4, 2) := by decide +kernel
theorem dX10_soonest_58 : decode cX10_soonest 58 = .ok (.iload 4, 2) := by decide +kernel
theorem dX10_soonest_60 : decode cX10_soonest 60 = .ok (.iload_n 2, 1) := by decide +kernel
theorem dX10_soonest_61 : decode cX10_soonest 61 = .ok (.if_icmp .gt 28, 3) := by decide +kernel
theorem dX10_soonest_64 : decode cX10_soonest 64 = .ok (.iload 4, 2) := by decide +kernel
theorem dX10_soonest_66 : decode cX10_soonest 66 = .ok (.iload_n 2, 1) := by decide +kernel
theorem dX10_soonest_67 : decode cX10_soonest 67 = .ok (.if_icmp .ne 17, 3) := by decide +kernel
theorem dX10_soonest_70 : decode cX10_soonest 70 = .ok (.iload_n 3, 1) := by decide +kernel
theorem dX10_soonest_71 : decode cX10_soonest 71 = .ok (.invokestatic 280, 3) := by decide +kernel
theorem dX10_soonest_74 : decode cX10_soonest 74 = .ok (.iload_n 1, 1) := by decide +kernel
theorem dX10_soonest_75 : decode cX10_soonest 75 = .ok (.invokestatic 280, 3) := by decide +kernel
theorem dX10_soonest_78 : decode cX10_soonest 78 = .ok (.if_icmp .lt 6, 3) := by decide +kernel
theorem dX10_soonest_81 : decode cX10_soonest 81 = .ok (.goto 8, 3) := by decide +kernel
theorem dX10_soonest_84 : decode cX10_soonest 84 = .ok (.iload_n 3, 1) := by decide +kernel
theorem dX10_soonest_85 : decode cX10_soonest 85 = .ok (.istore_n 1, 1) := by decide +kernel
theorem dX10_soonest_86 : decode cX10_soonest 86 = .ok (.iload 4, 2) := by decide +kernel
theorem dX10_soonest_88 : decode cX10_soonest 88 = .ok (.istore_n 2, 1) := by decide +kernel
theorem dX10_soonest_89 : decode cX10_soonest 89 = .ok (.iinc 3 1, 3) := by decide +kernel
theorem dX10_soonest_92 : decode cX10_soonest 92 = .ok (.goto (-67), 3) := by decide +kernel
theorem dX10_soonest_95 : decode cX10_soonest 95 = .ok (.aload_n 0, 1) := by decide +kernel
theorem dX10_soonest_96 : decode cX10_soonest 96 = .ok (.iconst 0, 1) := by decide +kernel
theorem dX10_soonest_97 : decode cX10_soonest 97 = .ok (.putfield 91, 3) := by decide +kernel
theorem dX10_soonest_100 : decode cX10_soonest 100 = .ok (.aload_n 0, 1) := by decide +kernel
theorem dX10_soonest_101 : decode cX10_soonest 101 = .ok (.iload_n 1, 1) := by decide +kernel
theorem dX10_soonest_102 : decode cX10_soonest 102 = .ok (.invokevirtual 322, 3) := by decide +kernel
theorem dX10_soonest_105 : decode cX10_soonest 105 = .ok (.iload_n 2, 1) := by decide +kernel
theorem dX10_soonest_106 : decode cX10_soonest 106 = .ok (.ireturn, 1) := by decide +kernel
theorem dX10_pays_0 : decode cX10_pays 0 = .ok (.aload_n 0, 1) := by decide +kernel
theorem dX10_pays_1 : decode cX10_pays 1 = .ok (.iconst 0, 1) := by decide +kernel
theorem dX10_pays_2 : decode cX10_pays 2 = .ok (.putfield 87, 3) := by decide +kernel
theorem dX10_pays_5 : decode cX10_pays 5 = .ok (.aload_n 0, 1) := by decide +kernel
theorem dX10_pays_6 : decode cX10_pays 6 = .ok (.iload_n 1, 1) := by decide +kernel
theorem dX10_pays_7 : decode cX10_pays 7 = .ok (.invokevirtual 251, 3) := by decide +kernel
theorem dX10_pays_10 : decode cX10_pays 10 = .ok (.ifCond .ne 5, 3) := by decide +kernel
theorem dX10_pays_13 : decode cX10_pays 13 = .ok (.iconst (-1), 1) := by decide +kernel
theorem dX10_pays_14 : decode cX10_pays 14 = .ok (.ireturn, 1) := by decide +kernel
theorem dX10_pays_15 : decode cX10_pays 15 = .ok (.aload_n 0, 1) := by decide +kernel
theorem dX10_pays_16 : decode cX10_pays 16 = .ok (.invokevirtual 349, 3) := by decide +kernel
theorem dX10_pays_19 : decode cX10_pays 19 = .ok (.aload_n 0, 1) := by decide +kernel
theorem dX10_pays_20 : decode cX10_pays 20 = .ok (.getfield 337, 3) := by decide +kernel
theorem dX10_pays_23 : decode cX10_pays 23 = .ok (.aload_n 0, 1) := by decide +kernel
theorem dX10_pays_24 : decode cX10_pays 24 = .ok (.getfield 59, 3) := by decide +kernel
theorem dX10_pays_27 : decode cX10_pays 27 = .ok (.iload_n 1, 1) := by decide +kernel
theorem dX10_pays_28 : decode cX10_pays 28 = .ok (.iaload, 1) := by decide +kernel
theorem dX10_pays_29 : decode cX10_pays 29 = .ok (.iand, 1) := by decide +kernel
theorem dX10_pays_30 : decode cX10_pays 30 = .ok (.istore_n 2, 1) := by decide +kernel
theorem dX10_pays_31 : decode cX10_pays 31 = .ok (.iconst 0, 1) := by decide +kernel
theorem dX10_pays_32 : decode cX10_pays 32 = .ok (.istore_n 3, 1) := by decide +kernel
theorem dX10_pays_33 : decode cX10_pays 33 = .ok (.iconst 0, 1) := by decide +kernel
theorem dX10_pays_34 : decode cX10_pays 34 = .ok (.istore 4, 2) := by decide +kernel
theorem dX10_pays_36 : decode cX10_pays 36 = .ok (.iload 4, 2) := by decide +kernel
theorem dX10_pays_38 : decode cX10_pays 38 = .ok (.aload_n 0, 1) := by decide +kernel
theorem dX10_pays_39 : decode cX10_pays 39 = .ok (.getfield 94, 3) := by decide +kernel
theorem dX10_pays_42 : decode cX10_pays 42 = .ok (.if_icmp .ge 34, 3) := by decide +kernel
theorem dX10_pays_45 : decode cX10_pays 45 = .ok (.iload_n 3, 1) := by decide +kernel
theorem dX10_pays_46 : decode cX10_pays 46 = .ok (.iload_n 2, 1) := by decide +kernel
theorem dX10_pays_47 : decode cX10_pays 47 = .ok (.iload 4, 2) := by decide +kernel
theorem dX10_pays_49 : decode cX10_pays 49 = .ok (.invokestatic 227, 3) := by decide +kernel
theorem dX10_pays_52 : decode cX10_pays 52 = .ok (.ifCond .eq 15, 3) := by decide +kernel
theorem dX10_pays_55 : decode cX10_pays 55 = .ok (.aload_n 0, 1) := by decide +kernel
theorem dX10_pays_56 : decode cX10_pays 56 = .ok (.iload 4, 2) := by decide +kernel
theorem dX10_pays_58 : decode cX10_pays 58 = .ok (.iload_n 1, 1) := by decide +kernel
theorem dX10_pays_59 : decode cX10_pays 59 = .ok (.iconst 0, 1) := by decide +kernel
theorem dX10_pays_60 : decode cX10_pays 60 = .ok (.iconst 0, 1) := by decide +kernel
theorem dX10_pays_61 : decode cX10_pays 61 = .ok (.invokevirtual 285, 3) := by decide +kernel
theorem dX10_pays_64 : decode cX10_pays 64 = .ok (.goto 4, 3) := by decide +kernel
theorem dX10_pays_67 : decode cX10_pays 67 = .ok (.iconst 0, 1) := by decide +kernel
theorem dX10_pays_68 : decode cX10_pays 68 = .ok (.iadd, 1) := by decide +kernel
theorem dX10_pays_69 : decode cX10_pays 69 = .ok (.istore_n 3, 1) := by decide +kernel
theorem dX10_pays_70 : decode cX10_pays 70 = .ok (.iinc 4 1, 3) := by decide +kernel
theorem dX10_pays_73 : decode cX10_pays 73 = .ok (.goto (-37), 3) := by decide +kernel
theorem dX10_pays_76 : decode cX10_pays 76 = .ok (.aload_n 0, 1) := by decide +kernel
theorem dX10_pays_77 : decode cX10_pays 77 = .ok (.iconst 0, 1) := by decide +kernel
theorem dX10_pays_78 : decode cX10_pays 78 = .ok (.putfield 91, 3) := by decide +kernel
theorem dX10_pays_81 : decode cX10_pays 81 = .ok (.aload_n 0, 1) := by decide +kernel
theorem dX10_pays_82 : decode cX10_pays 82 = .ok (.aload_n 0, 1) := by decide +kernel
theorem dX10_pays_83 : decode cX10_pays 83 = .ok (.getfield 9, 3) := by decide +kernel
theorem dX10_pays_86 : decode cX10_pays 86 = .ok (.bipush 17, 2) := by decide +kernel
theorem dX10_pays_88 : decode cX10_pays 88 = .ok (.iaload, 1) := by decide +kernel
theorem dX10_pays_89 : decode cX10_pays 89 = .ok (.iload_n 1, 1) := by decide +kernel
theorem dX10_pays_90 : decode cX10_pays 90 = .ok (.if_icmp .ne 7, 3) := by decide +kernel
theorem dX10_pays_93 : decode cX10_pays 93 = .ok (.iconst 0, 1) := by decide +kernel
theorem dX10_pays_94 : decode cX10_pays 94 = .ok (.goto 15, 3) := by decide +kernel
theorem dX10_pays_97 : decode cX10_pays 97 = .ok (.aload_n 0, 1) := by decide +kernel
theorem dX10_pays_98 : decode cX10_pays 98 = .ok (.aload_n 0, 1) := by decide +kernel
theorem dX10_pays_99 : decode cX10_pays 99 = .ok (.getfield 9, 3) := by decide +kernel
theorem dX10_pays_102 : decode cX10_pays 102 = .ok (.bipush 17, 2) := by decide +kernel
theorem dX10_pays_104 : decode cX10_pays 104 = .ok (.iaload, 1) := by decide +kernel
theorem dX10_pays_105 : decode cX10_pays 105 = .ok (.iload_n 1, 1) := by decide +kernel
theorem dX10_pays_106 : decode cX10_pays 106 = .ok (.invokevirtual 261, 3) := by decide +kernel
theorem dX10_pays_109 : decode cX10_pays 109 = .ok (.invokevirtual 322, 3) := by decide +kernel
theorem dX10_pays_112 : decode cX10_pays 112 = .ok (.aload_n 0, 1) := by decide +kernel
theorem dX10_pays_113 : decode cX10_pays 113 = .ok (.iload_n 3, 1) := by decide +kernel
theorem dX10_pays_114 : decode cX10_pays 114 = .ok (.invokevirtual 322, 3) := by decide +kernel
theorem dX10_pays_117 : decode cX10_pays 117 = .ok (.aload_n 0, 1) := by decide +kernel
theorem dX10_pays_118 : decode cX10_pays 118 = .ok (.iload_n 2, 1) := by decide +kernel
theorem dX10_pays_119 : decode cX10_pays 119 = .ok (.invokestatic 280, 3) := by decide +kernel
theorem dX10_pays_122 : decode cX10_pays 122 = .ok (.aload_n 0, 1) := by decide +kernel
theorem dX10_pays_123 : decode cX10_pays 123 = .ok (.getfield 31, 3) := by decide +kernel
theorem dX10_pays_126 : decode cX10_pays 126 = .ok (.iconst 4, 1) := by decide +kernel
theorem dX10_pays_127 : decode cX10_pays 127 = .ok (.iaload, 1) := by decide +kernel
theorem dX10_pays_128 : decode cX10_pays 128 = .ok (.iadd, 1) := by decide +kernel
theorem dX10_pays_129 : decode cX10_pays 129 = .ok (.iconst 1, 1) := by decide +kernel
theorem dX10_pays_130 : decode cX10_pays 130 = .ok (.isub, 1) := by decide +kernel
theorem dX10_pays_131 : decode cX10_pays 131 = .ok (.aload_n 0, 1) := by decide +kernel
theorem dX10_pays_132 : decode cX10_pays 132 = .ok (.getfield 31, 3) := by decide +kernel
theorem dX10_pays_135 : decode cX10_pays 135 = .ok (.iconst 4, 1) := by decide +kernel
theorem dX10_pays_136 : decode cX10_pays 136 = .ok (.iaload, 1) := by decide +kernel
theorem dX10_pays_137 : decode cX10_pays 137 = .ok (.idiv, 1) := by decide +kernel
theorem dX10_pays_138 : decode cX10_pays 138 = .ok (.aload_n 0, 1) := by decide +kernel
theorem dX10_pays_139 : decode cX10_pays 139 = .ok (.iload_n 1, 1) := by decide +kernel
theorem dX10_pays_140 : decode cX10_pays 140 = .ok (.invokevirtual 254, 3) := by decide +kernel
theorem dX10_pays_143 : decode cX10_pays 143 = .ok (.imul, 1) := by decide +kernel
theorem dX10_pays_144 : decode cX10_pays 144 = .ok (.invokevirtual 322, 3) := by decide +kernel
theorem dX10_pays_147 : decode cX10_pays 147 = .ok (.aload_n 0, 1) := by decide +kernel
theorem dX10_pays_148 : decode cX10_pays 148 = .ok (.iload_n 2, 1) := by decide +kernel
theorem dX10_pays_149 : decode cX10_pays 149 = .ok (.aload_n 0, 1) := by decide +kernel
theorem dX10_pays_150 : decode cX10_pays 150 = .ok (.getfield 9, 3) := by decide +kernel
theorem dX10_pays_153 : decode cX10_pays 153 = .ok (.bipush 16, 2) := by decide +kernel
theorem dX10_pays_155 : decode cX10_pays 155 = .ok (.iaload, 1) := by decide +kernel
theorem dX10_pays_156 : decode cX10_pays 156 = .ok (.invokevirtual 325, 3) := by decide +kernel
theorem dX10_pays_159 : decode cX10_pays 159 = .ok (.ireturn, 1) := by decide +kernel
theorem dX10_trips_0 : decode cX10_trips 0 = .ok (.aload_n 0, 1) := by decide +kernel
theorem dX10_trips_1 : decode cX10_trips 1 = .ok (.iconst 0, 1) := by decide +kernel
theorem dX10_trips_2 : decode cX10_trips 2 = .ok (.putfield 87, 3) := by decide +kernel
theorem dX10_trips_5 : decode cX10_trips 5 = .ok (.aload_n 0, 1) := by decide +kernel
theorem dX10_trips_6 : decode cX10_trips 6 = .ok (.iload_n 1, 1) := by decide +kernel
theorem dX10_trips_7 : decode cX10_trips 7 = .ok (.invokevirtual 251, 3) := by decide +kernel
theorem dX10_trips_10 : decode cX10_trips 10 = .ok (.ifCond .ne 5, 3) := by decide +kernel
theorem dX10_trips_13 : decode cX10_trips 13 = .ok (.iconst (-1), 1) := by decide +kernel
theorem dX10_trips_14 : decode cX10_trips 14 = .ok (.ireturn, 1) := by decide +kernel
theorem dX10_trips_15 : decode cX10_trips 15 = .ok (.aload_n 0, 1) := by decide +kernel
theorem dX10_trips_16 : decode cX10_trips 16 = .ok (.invokevirtual 349, 3) := by decide +kernel
theorem dX10_trips_19 : decode cX10_trips 19 = .ok (.aload_n 0, 1) := by decide +kernel
theorem dX10_trips_20 : decode cX10_trips 20 = .ok (.getfield 9, 3) := by decide +kernel
theorem dX10_trips_23 : decode cX10_trips 23 = .ok (.bipush 17, 2) := by decide +kernel
theorem dX10_trips_25 : decode cX10_trips 25 = .ok (.iaload, 1) := by decide +kernel
theorem dX10_trips_26 : decode cX10_trips 26 = .ok (.iload_n 1, 1) := by decide +kernel
theorem dX10_trips_27 : decode cX10_trips 27 = .ok (.if_icmp .ne 18, 3) := by decide +kernel
theorem dX10_trips_30 : decode cX10_trips 30 = .ok (.aload_n 0, 1) := by decide +kernel
theorem dX10_trips_31 : decode cX10_trips 31 = .ok (.aload_n 0, 1) := by decide +kernel
theorem dX10_trips_32 : decode cX10_trips 32 = .ok (.getfield 9, 3) := by decide +kernel
theorem dX10_trips_35 : decode cX10_trips 35 = .ok (.iconst 1, 1) := by decide +kernel
theorem dX10_trips_36 : decode cX10_trips 36 = .ok (.invokevirtual 244, 3) := by decide +kernel
theorem dX10_trips_39 : decode cX10_trips 39 = .ok (.invokestatic 280, 3) := by decide +kernel
theorem dX10_trips_42 : decode cX10_trips 42 = .ok (.goto 4, 3) := by decide +kernel
theorem dX10_trips_45 : decode cX10_trips 45 = .ok (.iconst 0, 1) := by decide +kernel
theorem dX10_trips_46 : decode cX10_trips 46 = .ok (.istore_n 2, 1) := by decide +kernel
theorem dX10_trips_47 : decode cX10_trips 47 = .ok (.iconst 0, 1) := by decide +kernel
theorem dX10_trips_48 : decode cX10_trips 48 = .ok (.istore_n 3, 1) := by decide +kernel
theorem dX10_trips_49 : decode cX10_trips 49 = .ok (.aload_n 0, 1) := by decide +kernel
theorem dX10_trips_50 : decode cX10_trips 50 = .ok (.getfield 337, 3) := by decide +kernel
theorem dX10_trips_53 : decode cX10_trips 53 = .ok (.aload_n 0, 1) := by decide +kernel
theorem dX10_trips_54 : decode cX10_trips 54 = .ok (.getfield 59, 3) := by decide +kernel
theorem dX10_trips_57 : decode cX10_trips 57 = .ok (.iload_n 1, 1) := by decide +kernel
theorem dX10_trips_58 : decode cX10_trips 58 = .ok (.iaload, 1) := by decide +kernel
theorem dX10_trips_59 : decode cX10_trips 59 = .ok (.iand, 1) := by decide +kernel
theorem dX10_trips_60 : decode cX10_trips 60 = .ok (.invokestatic 280, 3) := by decide +kernel
theorem dX10_trips_63 : decode cX10_trips 63 = .ok (.istore 4, 2) := by decide +kernel
theorem dX10_trips_65 : decode cX10_trips 65 = .ok (.iload 4, 2) := by decide +kernel
theorem dX10_trips_67 : decode cX10_trips 67 = .ok (.ifCond .le 27, 3) := by decide +kernel
theorem dX10_trips_70 : decode cX10_trips 70 = .ok (.iload_n 2, 1) := by decide +kernel
theorem dX10_trips_71 : decode cX10_trips 71 = .ok (.aload_n 0, 1) := by decide +kernel
theorem dX10_trips_72 : decode cX10_trips 72 = .ok (.getfield 31, 3) := by decide +kernel
theorem dX10_trips_75 : decode cX10_trips 75 = .ok (.iconst 4, 1) := by decide +kernel
theorem dX10_trips_76 : decode cX10_trips 76 = .ok (.iaload, 1) := by decide +kernel
theorem dX10_trips_77 : decode cX10_trips 77 = .ok (.if_icmp .lt 8, 3) := by decide +kernel
theorem dX10_trips_80 : decode cX10_trips 80 = .ok (.iinc 3 1, 3) := by decide +kernel
theorem dX10_trips_83 : decode cX10_trips 83 = .ok (.iconst 0, 1) := by decide +kernel
theorem dX10_trips_84 : decode cX10_trips 84 = .ok (.istore_n 2, 1) := by decide +kernel
theorem dX10_trips_85 : decode cX10_trips 85 = .ok (.iinc 2 1, 3) := by decide +kernel
theorem dX10_trips_88 : decode cX10_trips 88 = .ok (.iinc 4 (-1), 3) := by decide +kernel
theorem dX10_trips_91 : decode cX10_trips 91 = .ok (.goto (-26), 3) := by decide +kernel
theorem dX10_trips_94 : decode cX10_trips 94 = .ok (.aload_n 0, 1) := by decide +kernel
theorem dX10_trips_95 : decode cX10_trips 95 = .ok (.iconst 0, 1) := by decide +kernel
theorem dX10_trips_96 : decode cX10_trips 96 = .ok (.putfield 91, 3) := by decide +kernel
theorem dX10_trips_99 : decode cX10_trips 99 = .ok (.aload_n 0, 1) := by decide +kernel
theorem dX10_trips_100 : decode cX10_trips 100 = .ok (.iload_n 2, 1) := by decide +kernel
theorem dX10_trips_101 : decode cX10_trips 101 = .ok (.invokevirtual 322, 3) := by decide +kernel
theorem dX10_trips_104 : decode cX10_trips 104 = .ok (.iload_n 3, 1) := by decide +kernel
theorem dX10_trips_105 : decode cX10_trips 105 = .ok (.ireturn, 1) := by decide +kernel
theorem dX10_helps_0 : decode cX10_helps 0 = .ok (.aload_n 0, 1) := by decide +kernel
theorem dX10_helps_1 : decode cX10_helps 1 = .ok (.iconst 0, 1) := by decide +kernel
theorem dX10_helps_2 : decode cX10_helps 2 = .ok (.putfield 87, 3) := by decide +kernel
theorem dX10_helps_5 : decode cX10_helps 5 = .ok (.aload_n 0, 1) := by decide +kernel
theorem dX10_helps_6 : decode cX10_helps 6 = .ok (.iconst 0, 1) := by decide +kernel
theorem dX10_helps_7 : decode cX10_helps 7 = .ok (.invokevirtual 328, 3) := by decide +kernel
theorem dX10_helps_10 : decode cX10_helps 10 = .ok (.aload_n 0, 1) := by decide +kernel
theorem dX10_helps_11 : decode cX10_helps 11 = .ok (.aload_n 0, 1) := by decide +kernel
theorem dX10_helps_12 : decode cX10_helps 12 = .ok (.getfield 337, 3) := by decide +kernel
theorem dX10_helps_15 : decode cX10_helps 15 = .ok (.invokevirtual 346, 3) := by decide +kernel
theorem dX10_helps_18 : decode cX10_helps 18 = .ok (.invokestatic 280, 3) := by decide +kernel
theorem dX10_helps_21 : decode cX10_helps 21 = .ok (.istore_n 1, 1) := by decide +kernel
theorem dX10_helps_22 : decode cX10_helps 22 = .ok (.aload_n 0, 1) := by decide +kernel
theorem dX10_helps_23 : decode cX10_helps 23 = .ok (.getfield 337, 3) := by decide +kernel
theorem dX10_helps_26 : decode cX10_helps 26 = .ok (.invokestatic 280, 3) := by decide +kernel
theorem dX10_helps_29 : decode cX10_helps 29 = .ok (.istore_n 2, 1) := by decide +kernel
theorem dX10_helps_30 : decode cX10_helps 30 = .ok (.aload_n 0, 1) := by decide +kernel
theorem dX10_helps_31 : decode cX10_helps 31 = .ok (.iconst 1, 1) := by decide +kernel
theorem dX10_helps_32 : decode cX10_helps 32 = .ok (.invokevirtual 328, 3) := by decide +kernel
theorem dX10_helps_35 : decode cX10_helps 35 = .ok (.aload_n 0, 1) := by decide +kernel
theorem dX10_helps_36 : decode cX10_helps 36 = .ok (.aload_n 0, 1) := by decide +kernel
theorem dX10_helps_37 : decode cX10_helps 37 = .ok (.getfield 337, 3) := by decide +kernel
theorem dX10_helps_40 : decode cX10_helps 40 = .ok (.invokevirtual 346, 3) := by decide +kernel
theorem dX10_helps_43 : decode cX10_helps 43 = .ok (.invokestatic 280, 3) := by decide +kernel
theorem dX10_helps_46 : decode cX10_helps 46 = .ok (.istore_n 3, 1) := by decide +kernel
theorem dX10_helps_47 : decode cX10_helps 47 = .ok (.aload_n 0, 1) := by decide +kernel
theorem dX10_helps_48 : decode cX10_helps 48 = .ok (.iconst 0, 1) := by decide +kernel
theorem dX10_helps_49 : decode cX10_helps 49 = .ok (.putfield 91, 3) := by decide +kernel
theorem dX10_helps_52 : decode cX10_helps 52 = .ok (.aload_n 0, 1) := by decide +kernel
theorem dX10_helps_53 : decode cX10_helps 53 = .ok (.iload_n 2, 1) := by decide +kernel
theorem dX10_helps_54 : decode cX10_helps 54 = .ok (.invokevirtual 322, 3) := by decide +kernel
theorem dX10_helps_57 : decode cX10_helps 57 = .ok (.aload_n 0, 1) := by decide +kernel
theorem dX10_helps_58 : decode cX10_helps 58 = .ok (.aload_n 0, 1) := by decide +kernel
theorem dX10_helps_59 : decode cX10_helps 59 = .ok (.getfield 337, 3) := by decide +kernel
theorem dX10_helps_62 : decode cX10_helps 62 = .ok (.invokestatic 280, 3) := by decide +kernel
theorem dX10_helps_65 : decode cX10_helps 65 = .ok (.invokevirtual 322, 3) := by decide +kernel
theorem dX10_helps_68 : decode cX10_helps 68 = .ok (.iload_n 1, 1) := by decide +kernel
theorem dX10_helps_69 : decode cX10_helps 69 = .ok (.iload_n 3, 1) := by decide +kernel
theorem dX10_helps_70 : decode cX10_helps 70 = .ok (.isub, 1) := by decide +kernel
theorem dX10_helps_71 : decode cX10_helps 71 = .ok (.ireturn, 1) := by decide +kernel
theorem dX10_hooked_0 : decode cX10_hooked 0 = .ok (.aload_n 0, 1) := by decide +kernel
theorem dX10_hooked_1 : decode cX10_hooked 1 = .ok (.iconst 0, 1) := by decide +kernel
theorem dX10_hooked_2 : decode cX10_hooked 2 = .ok (.putfield 87, 3) := by decide +kernel
theorem dX10_hooked_5 : decode cX10_hooked 5 = .ok (.aload_n 0, 1) := by decide +kernel
theorem dX10_hooked_6 : decode cX10_hooked 6 = .ok (.invokevirtual 349, 3) := by decide +kernel
theorem dX10_hooked_9 : decode cX10_hooked 9 = .ok (.aload_n 0, 1) := by decide +kernel
theorem dX10_hooked_10 : decode cX10_hooked 10 = .ok (.aload_n 0, 1) := by decide +kernel
theorem dX10_hooked_11 : decode cX10_hooked 11 = .ok (.getfield 9, 3) := by decide +kernel
theorem dX10_hooked_14 : decode cX10_hooked 14 = .ok (.iconst 0, 1) := by decide +kernel
theorem dX10_hooked_15 : decode cX10_hooked 15 = .ok (.invokevirtual 244, 3) := by decide +kernel
theorem dX10_hooked_18 : decode cX10_hooked 18 = .ok (.aload_n 0, 1) := by decide +kernel
theorem dX10_hooked_19 : decode cX10_hooked 19 = .ok (.aload_n 0, 1) := by decide +kernel
theorem dX10_hooked_20 : decode cX10_hooked 20 = .ok (.getfield 9, 3) := by decide +kernel
theorem dX10_hooked_23 : decode cX10_hooked 23 = .ok (.bipush 19, 2) := by decide +kernel
theorem dX10_hooked_25 : decode cX10_hooked 25 = .ok (.iaload, 1) := by decide +kernel
theorem dX10_hooked_26 : decode cX10_hooked 26 = .ok (.invokevirtual 301, 3) := by decide +kernel
theorem dX10_hooked_29 : decode cX10_hooked 29 = .ok (.iand, 1) := by decide +kernel
theorem dX10_hooked_30 : decode cX10_hooked 30 = .ok (.aload_n 0, 1) := by decide +kernel
theorem dX10_hooked_31 : decode cX10_hooked 31 = .ok (.aload_n 0, 1) := by decide +kernel
theorem dX10_hooked_32 : decode cX10_hooked 32 = .ok (.invokevirtual 331, 3) := by decide +kernel
theorem dX10_hooked_35 : decode cX10_hooked 35 = .ok (.invokevirtual 334, 3) := by decide +kernel
theorem dX10_hooked_38 : decode cX10_hooked 38 = .ok (.iconst (-1), 1) := by decide +kernel
theorem dX10_hooked_39 : decode cX10_hooked 39 = .ok (.ixor, 1) := by decide +kernel
theorem dX10_hooked_40 : decode cX10_hooked 40 = .ok (.iand, 1) := by decide +kernel
theorem dX10_hooked_41 : decode cX10_hooked 41 = .ok (.istore_n 1, 1) := by decide +kernel
theorem dX10_hooked_42 : decode cX10_hooked 42 = .ok (.iconst 0, 1) := by decide +kernel
theorem dX10_hooked_43 : decode cX10_hooked 43 = .ok (.istore_n 2, 1) := by decide +kernel
theorem dX10_hooked_44 : decode cX10_hooked 44 = .ok (.iconst (-1), 1) := by decide +kernel
theorem dX10_hooked_45 : decode cX10_hooked 45 = .ok (.istore_n 3, 1) := by decide +kernel
theorem dX10_hooked_46 : decode cX10_hooked 46 = .ok (.iconst 0, 1) := by decide +kernel
theorem dX10_hooked_47 : decode cX10_hooked 47 = .ok (.istore 4, 2) := by decide +kernel
theorem dX10_hooked_49 : decode cX10_hooked 49 = .ok (.iconst 0, 1) := by decide +kernel
theorem dX10_hooked_50 : decode cX10_hooked 50 = .ok (.istore 5, 2) := by decide +kernel
theorem dX10_hooked_52 : decode cX10_hooked 52 = .ok (.iload 5, 2) := by decide +kernel
theorem dX10_hooked_54 : decode cX10_hooked 54 = .ok (.aload_n 0, 1) := by decide +kernel
theorem dX10_hooked_55 : decode cX10_hooked 55 = .ok (.getfield 101, 3) := by decide +kernel
theorem dX10_hooked_58 : decode cX10_hooked 58 = .ok (.if_icmp .ge 55, 3) := by decide +kernel
theorem dX10_hooked_61 : decode cX10_hooked 61 = .ok (.iload_n 1, 1) := by decide +kernel
theorem dX10_hooked_62 : decode cX10_hooked 62 = .ok (.aload_n 0, 1) := by decide +kernel
theorem dX10_hooked_63 : decode cX10_hooked 63 = .ok (.iload 5, 2) := by decide +kernel
theorem dX10_hooked_65 : decode cX10_hooked 65 = .ok (.aload_n 0, 1) := by decide +kernel
theorem dX10_hooked_66 : decode cX10_hooked 66 = .ok (.getfield 9, 3) := by decide +kernel
theorem dX10_hooked_69 : decode cX10_hooked 69 = .ok (.bipush 18, 2) := by decide +kernel
theorem dX10_hooked_71 : decode cX10_hooked 71 = .ok (.iaload, 1) := by decide +kernel
theorem dX10_hooked_72 : decode cX10_hooked 72 = .ok (.iconst 1, 1) := by decide +kernel
theorem dX10_hooked_73 : decode cX10_hooked 73 = .ok (.invokevirtual 220, 3) := by decide +kernel
theorem dX10_hooked_76 : decode cX10_hooked 76 = .ok (.iand, 1) := by decide +kernel
theorem dX10_hooked_77 : decode cX10_hooked 77 = .ok (.istore 6, 2) := by decide +kernel
theorem dX10_hooked_79 : decode cX10_hooked 79 = .ok (.iload_n 2, 1) := by decide +kernel
theorem dX10_hooked_80 : decode cX10_hooked 80 = .ok (.iload 6, 2) := by decide +kernel
theorem dX10_hooked_82 : decode cX10_hooked 82 = .ok (.ior, 1) := by decide +kernel
theorem dX10_hooked_83 : decode cX10_hooked 83 = .ok (.istore_n 2, 1) := by decide +kernel
theorem dX10_hooked_84 : decode cX10_hooked 84 = .ok (.iload 6, 2) := by decide +kernel
theorem dX10_hooked_86 : decode cX10_hooked 86 = .ok (.invokestatic 280, 3) := by decide +kernel
theorem dX10_hooked_89 : decode cX10_hooked 89 = .ok (.iload 4, 2) := by decide +kernel
theorem dX10_hooked_91 : decode cX10_hooked 91 = .ok (.if_icmp .gt 6, 3) := by decide +kernel
theorem dX10_hooked_94 : decode cX10_hooked 94 = .ok (.goto 13, 3) := by decide +kernel
theorem dX10_hooked_97 : decode cX10_hooked 97 = .ok (.iload 5, 2) := by decide +kernel
theorem dX10_hooked_99 : decode cX10_hooked 99 = .ok (.istore_n 3, 1) := by decide +kernel
theorem dX10_hooked_100 : decode cX10_hooked 100 = .ok (.iload 6, 2) := by decide +kernel
theorem dX10_hooked_102 : decode cX10_hooked 102 = .ok (.invokestatic 280, 3) := by decide +kernel
theorem dX10_hooked_105 : decode cX10_hooked 105 = .ok (.istore 4, 2) := by decide +kernel
theorem dX10_hooked_107 : decode cX10_hooked 107 = .ok (.iinc 5 1, 3) := by decide +kernel
theorem dX10_hooked_110 : decode cX10_hooked 110 = .ok (.goto (-58), 3) := by decide +kernel
theorem dX10_hooked_113 : decode cX10_hooked 113 = .ok (.aload_n 0, 1) := by decide +kernel
theorem dX10_hooked_114 : decode cX10_hooked 114 = .ok (.iconst 0, 1) := by decide +kernel
theorem dX10_hooked_115 : decode cX10_hooked 115 = .ok (.putfield 91, 3) := by decide +kernel
theorem dX10_hooked_118 : decode cX10_hooked 118 = .ok (.aload_n 0, 1) := by decide +kernel
theorem dX10_hooked_119 : decode cX10_hooked 119 = .ok (.iload_n 3, 1) := by decide +kernel
theorem dX10_hooked_120 : decode cX10_hooked 120 = .ok (.invokevirtual 322, 3) := by decide +kernel
theorem dX10_hooked_123 : decode cX10_hooked 123 = .ok (.aload_n 0, 1) := by decide +kernel
theorem dX10_hooked_124 : decode cX10_hooked 124 = .ok (.iload 4, 2) := by decide +kernel
theorem dX10_hooked_126 : decode cX10_hooked 126 = .ok (.invokevirtual 322, 3) := by decide +kernel
theorem dX10_hooked_129 : decode cX10_hooked 129 = .ok (.iload_n 2, 1) := by decide +kernel
theorem dX10_hooked_130 : decode cX10_hooked 130 = .ok (.ireturn, 1) := by decide +kernel
theorem dX10_broken_0 : decode cX10_broken 0 = .ok (.aload_n 0, 1) := by decide +kernel
theorem dX10_broken_1 : decode cX10_broken 1 = .ok (.iconst 0, 1) := by decide +kernel
theorem dX10_broken_2 : decode cX10_broken 2 = .ok (.putfield 87, 3) := by decide +kernel
theorem dX10_broken_5 : decode cX10_broken 5 = .ok (.aload_n 0, 1) := by decide +kernel
theorem dX10_broken_6 : decode cX10_broken 6 = .ok (.iload_n 1, 1) := by decide +kernel
theorem dX10_broken_7 : decode cX10_broken 7 = .ok (.invokevirtual 251, 3) := by decide +kernel
theorem dX10_broken_10 : decode cX10_broken 10 = .ok (.ifCond .ne 5, 3) := by decide +kernel
theorem dX10_broken_13 : decode cX10_broken 13 = .ok (.iconst (-1), 1) := by decide +kernel
theorem dX10_broken_14 : decode cX10_broken 14 = .ok (.ireturn, 1) := by decide +kernel
theorem dX10_broken_15 : decode cX10_broken 15 = .ok (.aload_n 0, 1) := by decide +kernel
theorem dX10_broken_16 : decode cX10_broken 16 = .ok (.invokevirtual 349, 3) := by decide +kernel
theorem dX10_broken_19 : decode cX10_broken 19 = .ok (.aload_n 0, 1) := by decide +kernel
theorem dX10_broken_20 : decode cX10_broken 20 = .ok (.getfield 59, 3) := by decide +kernel
theorem dX10_broken_23 : decode cX10_broken 23 = .ok (.iload_n 1, 1) := by decide +kernel
theorem dX10_broken_24 : decode cX10_broken 24 = .ok (.iconst 0, 1) := by decide +kernel
theorem dX10_broken_25 : decode cX10_broken 25 = .ok (.iastore, 1) := by decide +kernel
theorem dX10_broken_26 : decode cX10_broken 26 = .ok (.aload_n 0, 1) := by decide +kernel
theorem dX10_broken_27 : decode cX10_broken 27 = .ok (.getfield 337, 3) := by decide +kernel
theorem dX10_broken_30 : decode cX10_broken 30 = .ok (.aload_n 0, 1) := by decide +kernel
theorem dX10_broken_31 : decode cX10_broken 31 = .ok (.aload_n 0, 1) := by decide +kernel
theorem dX10_broken_32 : decode cX10_broken 32 = .ok (.invokevirtual 331, 3) := by decide +kernel
theorem dX10_broken_35 : decode cX10_broken 35 = .ok (.invokevirtual 334, 3) := by decide +kernel
theorem dX10_broken_38 : decode cX10_broken 38 = .ok (.iand, 1) := by decide +kernel
theorem dX10_broken_39 : decode cX10_broken 39 = .ok (.istore_n 2, 1) := by decide +kernel
theorem dX10_broken_40 : decode cX10_broken 40 = .ok (.aload_n 0, 1) := by decide +kernel
theorem dX10_broken_41 : decode cX10_broken 41 = .ok (.iload_n 2, 1) := by decide +kernel
theorem dX10_broken_42 : decode cX10_broken 42 = .ok (.invokevirtual 346, 3) := by decide +kernel
theorem dX10_broken_45 : decode cX10_broken 45 = .ok (.invokestatic 280, 3) := by decide +kernel
theorem dX10_broken_48 : decode cX10_broken 48 = .ok (.istore_n 3, 1) := by decide +kernel
theorem dX10_broken_49 : decode cX10_broken 49 = .ok (.aload_n 0, 1) := by decide +kernel
theorem dX10_broken_50 : decode cX10_broken 50 = .ok (.iconst 0, 1) := by decide +kernel
theorem dX10_broken_51 : decode cX10_broken 51 = .ok (.putfield 91, 3) := by decide +kernel
theorem dX10_broken_54 : decode cX10_broken 54 = .ok (.aload_n 0, 1) := by decide +kernel
theorem dX10_broken_55 : decode cX10_broken 55 = .ok (.aload_n 0, 1) := by decide +kernel
theorem dX10_broken_56 : decode cX10_broken 56 = .ok (.getfield 337, 3) := by decide +kernel
theorem dX10_broken_59 : decode cX10_broken 59 = .ok (.iload_n 2, 1) := by decide +kernel
theorem dX10_broken_60 : decode cX10_broken 60 = .ok (.iconst (-1), 1) := by decide +kernel
theorem dX10_broken_61 : decode cX10_broken 61 = .ok (.ixor, 1) := by decide +kernel
theorem dX10_broken_62 : decode cX10_broken 62 = .ok (.iand, 1) := by decide +kernel
theorem dX10_broken_63 : decode cX10_broken 63 = .ok (.invokevirtual 322, 3) := by decide +kernel
theorem dX10_broken_66 : decode cX10_broken 66 = .ok (.iload_n 3, 1) := by decide +kernel
theorem dX10_broken_67 : decode cX10_broken 67 = .ok (.ireturn, 1) := by decide +kernel
theorem dX10_sweep_0 : decode cX10_sweep 0 = .ok (.aload_n 0, 1) := by decide +kernel
theorem dX10_sweep_1 : decode cX10_sweep 1 = .ok (.iconst 0, 1) := by decide +kernel
theorem dX10_sweep_2 : decode cX10_sweep 2 = .ok (.putfield 87, 3) := by decide +kernel
theorem dX10_sweep_5 : decode cX10_sweep 5 = .ok (.iload_n 1, 1) := by decide +kernel
theorem dX10_sweep_6 : decode cX10_sweep 6 = .ok (.iconst 0, 1) := by decide +kernel
theorem dX10_sweep_7 : decode cX10_sweep 7 = .ok (.sipush 9999, 3) := by decide +kernel
theorem dX10_sweep_10 : decode cX10_sweep 10 = .ok (.invokestatic 97, 3) := by decide +kernel
theorem dX10_sweep_13 : decode cX10_sweep 13 = .ok (.ifCond .ne 5, 3) := by decide +kernel
theorem dX10_sweep_16 : decode cX10_sweep 16 = .ok (.iconst (-1), 1) := by decide +kernel
theorem dX10_sweep_17 : decode cX10_sweep 17 = .ok (.ireturn, 1) := by decide +kernel
theorem dX10_sweep_18 : decode cX10_sweep 18 = .ok (.aload_n 0, 1) := by decide +kernel
theorem dX10_sweep_19 : decode cX10_sweep 19 = .ok (.invokevirtual 349, 3) := by decide +kernel
theorem dX10_sweep_22 : decode cX10_sweep 22 = .ok (.aload_n 0, 1) := by decide +kernel
theorem dX10_sweep_23 : decode cX10_sweep 23 = .ok (.invokevirtual 364, 3) := by decide +kernel
theorem dX10_sweep_26 : decode cX10_sweep 26 = .ok (.aload_n 0, 1) := by decide +kernel
theorem dX10_sweep_27 : decode cX10_sweep 27 = .ok (.invokevirtual 382, 3) := by decide +kernel
theorem dX10_sweep_30 : decode cX10_sweep 30 = .ok (.iconst (-1), 1) := by decide +kernel
theorem dX10_sweep_31 : decode cX10_sweep 31 = .ok (.istore_n 2, 1) := by decide +kernel
theorem dX10_sweep_32 : decode cX10_sweep 32 = .ok (.iconst (-1), 1) := by decide +kernel
theorem dX10_sweep_33 : decode cX10_sweep 33 = .ok (.istore_n 3, 1) := by decide +kernel
theorem dX10_sweep_34 : decode cX10_sweep 34 = .ok (.iconst 0, 1) := by decide +kernel
theorem dX10_sweep_35 : decode cX10_sweep 35 = .ok (.istore 4, 2) := by decide +kernel
theorem dX10_sweep_37 : decode cX10_sweep 37 = .ok (.iconst 0, 1) := by decide +kernel
theorem dX10_sweep_38 : decode cX10_sweep 38 = .ok (.istore 5, 2) := by decide +kernel
theorem dX10_sweep_40 : decode cX10_sweep 40 = .ok (.iload 5, 2) := by decide +kernel
theorem dX10_sweep_42 : decode cX10_sweep 42 = .ok (.aload_n 0, 1) := by decide +kernel
theorem dX10_sweep_43 : decode cX10_sweep 43 = .ok (.invokevirtual 331, 3) := by decide +kernel
theorem dX10_sweep_46 : decode cX10_sweep 46 = .ok (.if_icmp .gt 82, 3) := by decide +kernel
theorem dX10_sweep_49 : decode cX10_sweep 49 = .ok (.aload_n 0, 1) := by decide +kernel
theorem dX10_sweep_50 : decode cX10_sweep 50 = .ok (.iload 5, 2) := by decide +kernel
theorem dX10_sweep_52 : decode cX10_sweep 52 = .ok (.invokevirtual 385, 3) := by decide +kernel
theorem dX10_sweep_55 : decode cX10_sweep 55 = .ok (.istore 6, 2) := by decide +kernel
theorem dX10_sweep_57 : decode cX10_sweep 57 = .ok (.iload 6, 2) := by decide +kernel
theorem dX10_sweep_59 : decode cX10_sweep 59 = .ok (.iload_n 1, 1) := by decide +kernel
theorem dX10_sweep_60 : decode cX10_sweep 60 = .ok (.if_icmp .le 6, 3) := by decide +kernel
theorem dX10_sweep_63 : decode cX10_sweep 63 = .ok (.goto 59, 3) := by decide +kernel
theorem dX10_sweep_66 : decode cX10_sweep 66 = .ok (.aload_n 0, 1) := by decide +kernel
theorem dX10_sweep_67 : decode cX10_sweep 67 = .ok (.aload_n 0, 1) := by decide +kernel
theorem dX10_sweep_68 : decode cX10_sweep 68 = .ok (.getfield 337, 3) := by decide +kernel
theorem dX10_sweep_71 : decode cX10_sweep 71 = .ok (.aload_n 0, 1) := by decide +kernel
theorem dX10_sweep_72 : decode cX10_sweep 72 = .ok (.iload 5, 2) := by decide +kernel
theorem dX10_sweep_74 : decode cX10_sweep 74 = .ok (.invokevirtual 334, 3) := by decide +kernel
theorem dX10_sweep_77 : decode cX10_sweep 77 = .ok (.iand, 1) := by decide +kernel
theorem dX10_sweep_78 : decode cX10_sweep 78 = .ok (.aload_n 0, 1) := by decide +kernel
theorem dX10_sweep_79 : decode cX10_sweep 79 = .ok (.getfield 9, 3) := by decide +kernel
theorem dX10_sweep_82 : decode cX10_sweep 82 = .ok (.bipush 16, 2) := by decide +kernel
theorem dX10_sweep_84 : decode cX10_sweep 84 = .ok (.iaload, 1) := by decide +kernel
theorem dX10_sweep_85 : decode cX10_sweep 85 = .ok (.invokevirtual 325, 3) := by decide +kernel
theorem dX10_sweep_88 : decode cX10_sweep 88 = .ok (.istore 7, 2) := by decide +kernel
theorem dX10_sweep_90 : decode cX10_sweep 90 = .ok (.iload 7, 2) := by decide +kernel
theorem dX10_sweep_92 : decode cX10_sweep 92 = .ok (.iload_n 3, 1) := by decide +kernel
theorem dX10_sweep_93 : decode cX10_sweep 93 = .ok (.if_icmp .lt 29, 3) := by decide +kernel
theorem dX10_sweep_96 : decode cX10_sweep 96 = .ok (.iload 7, 2) := by decide +kernel
theorem dX10_sweep_98 : decode cX10_sweep 98 = .ok (.iload_n 3, 1) := by decide +kernel
theorem dX10_sweep_99 : decode cX10_sweep 99 = .ok (.if_icmp .ne 13, 3) := by decide +kernel
theorem dX10_sweep_102 : decode cX10_sweep 102 = .ok (.iload 6, 2) := by decide +kernel
theorem dX10_sweep_104 : decode cX10_sweep 104 = .ok (.iload 4, 2) := by decide +kernel
theorem dX10_sweep_106 : decode cX10_sweep 106 = .ok (.if_icmp .lt 6, 3) := by decide +kernel
theorem dX10_sweep_109 : decode cX10_sweep 109 = .ok (.goto 13, 3) := by decide +kernel
theorem dX10_sweep_112 : decode cX10_sweep 112 = .ok (.iload 5, 2) := by decide +kernel
theorem dX10_sweep_114 : decode cX10_sweep 114 = .ok (.istore_n 2, 1) := by decide +kernel
theorem dX10_sweep_115 : decode cX10_sweep 115 = .ok (.iload 7, 2) := by decide +kernel
theorem dX10_sweep_117 : decode cX10_sweep 117 = .ok (.istore_n 3, 1) := by decide +kernel
theorem dX10_sweep_118 : decode cX10_sweep 118 = .ok (.iload 6, 2) := by decide +kernel
theorem dX10_sweep_120 : decode cX10_sweep 120 = .ok (.istore 4, 2) := by decide +kernel
theorem dX10_sweep_122 : decode cX10_sweep 122 = .ok (.iinc 5 1, 3) := by decide +kernel
theorem dX10_sweep_125 : decode cX10_sweep 125 = .ok (.goto (-85), 3) := by decide +kernel
theorem dX10_sweep_128 : decode cX10_sweep 128 = .ok (.aload_n 0, 1) := by decide +kernel
theorem dX10_sweep_129 : decode cX10_sweep 129 = .ok (.iconst 0, 1) := by decide +kernel
theorem dX10_sweep_130 : decode cX10_sweep 130 = .ok (.putfield 91, 3) := by decide +kernel
theorem dX10_sweep_133 : decode cX10_sweep 133 = .ok (.aload_n 0, 1) := by decide +kernel
theorem dX10_sweep_134 : decode cX10_sweep 134 = .ok (.iload_n 2, 1) := by decide +kernel
theorem dX10_sweep_135 : decode cX10_sweep 135 = .ok (.invokevirtual 322, 3) := by decide +kernel
theorem dX10_sweep_138 : decode cX10_sweep 138 = .ok (.aload_n 0, 1) := by decide +kernel
theorem dX10_sweep_139 : decode cX10_sweep 139 = .ok (.iload 4, 2) := by decide +kernel
theorem dX10_sweep_141 : decode cX10_sweep 141 = .ok (.invokevirtual 322, 3) := by decide +kernel
theorem dX10_sweep_144 : decode cX10_sweep 144 = .ok (.iload_n 3, 1) := by decide +kernel
theorem dX10_sweep_145 : decode cX10_sweep 145 = .ok (.ireturn, 1) := by decide +kernel
theorem dX10_hereWanted_0 : decode cX10_hereWanted 0 = .ok (.aload_n 0, 1) := by decide +kernel
theorem dX10_hereWanted_1 : decode cX10_hereWanted 1 = .ok (.aload_n 0, 1) := by decide +kernel
theorem dX10_hereWanted_2 : decode cX10_hereWanted 2 = .ok (.getfield 9, 3) := by decide +kernel
theorem dX10_hereWanted_5 : decode cX10_hereWanted 5 = .ok (.iconst 0, 1) := by decide +kernel
theorem dX10_hereWanted_6 : decode cX10_hereWanted 6 = .ok (.invokevirtual 244, 3) := by decide +kernel
theorem dX10_hereWanted_9 : decode cX10_hereWanted 9 = .ok (.aload_n 0, 1) := by decide +kernel
theorem dX10_hereWanted_10 : decode cX10_hereWanted 10 = .ok (.aload_n 0, 1) := by decide +kernel
theorem dX10_hereWanted_11 : decode cX10_hereWanted 11 = .ok (.getfield 9, 3) := by decide +kernel
theorem dX10_hereWanted_14 : decode cX10_hereWanted 14 = .ok (.bipush 19, 2) := by decide +kernel
theorem dX10_hereWanted_16 : decode cX10_hereWanted 16 = .ok (.iaload, 1) := by decide +kernel
theorem dX10_hereWanted_17 : decode cX10_hereWanted 17 = .ok (.invokevirtual 301, 3) := by decide +kernel
theorem dX10_hereWanted_20 : decode cX10_hereWanted 20 = .ok (.iand, 1) := by decide +kernel
theorem dX10_hereWanted_21 : decode cX10_hereWanted 21 = .ok (.aload_n 0, 1) := by decide +kernel
theorem dX10_hereWanted_22 : decode cX10_hereWanted 22 = .ok (.aload_n 0, 1) := by decide +kernel
theorem dX10_hereWanted_23 : decode cX10_hereWanted 23 = .ok (.getfield 9, 3) := by decide +kernel
theorem dX10_hereWanted_26 : decode cX10_hereWanted 26 = .ok (.bipush 17, 2) := by decide +kernel
theorem dX10_hereWanted_28 : decode cX10_hereWanted 28 = .ok (.iaload, 1) := by decide +kernel
theorem dX10_hereWanted_29 : decode cX10_hereWanted 29 = .ok (.invokevirtual 304, 3) := by decide +kernel
theorem dX10_hereWanted_32 : decode cX10_hereWanted 32 = .ok (.iand, 1) := by decide +kernel
theorem dX10_hereWanted_33 : decode cX10_hereWanted 33 = .ok (.ireturn, 1) := by decide +kernel
theorem dX10_dusk_0 : decode cX10_dusk 0 = .ok (.aload_n 0, 1) := by decide +kernel
theorem dX10_dusk_1 : decode cX10_dusk 1 = .ok (.iconst 0, 1) := by decide +kernel
theorem dX10_dusk_2 : decode cX10_dusk 2 = .ok (.putfield 87, 3) := by decide +kernel
theorem dX10_dusk_5 : decode cX10_dusk 5 = .ok (.iload_n 1, 1) := by decide +kernel
theorem dX10_dusk_6 : decode cX10_dusk 6 = .ok (.iconst 0, 1) := by decide +kernel
theorem dX10_dusk_7 : decode cX10_dusk 7 = .ok (.sipush 300, 3) := by decide +kernel
theorem dX10_dusk_10 : decode cX10_dusk 10 = .ok (.invokestatic 97, 3) := by decide +kernel
theorem dX10_dusk_13 : decode cX10_dusk 13 = .ok (.ifCond .ne 5, 3) := by decide +kernel
theorem dX10_dusk_16 : decode cX10_dusk 16 = .ok (.iconst (-1), 1) := by decide +kernel
theorem dX10_dusk_17 : decode cX10_dusk 17 = .ok (.ireturn, 1) := by decide +kernel
theorem dX10_dusk_18 : decode cX10_dusk 18 = .ok (.aload_n 0, 1) := by decide +kernel
theorem dX10_dusk_19 : decode cX10_dusk 19 = .ok (.getfield 9, 3) := by decide +kernel
theorem dX10_dusk_22 : decode cX10_dusk 22 = .ok (.bipush 17, 2) := by decide +kernel
theorem dX10_dusk_24 : decode cX10_dusk 24 = .ok (.iaload, 1) := by decide +kernel
theorem dX10_dusk_25 : decode cX10_dusk 25 = .ok (.iconst (-1), 1) := by decide +kernel
theorem dX10_dusk_26 : decode cX10_dusk 26 = .ok (.if_icmp .ne 6, 3) := by decide +kernel
theorem dX10_dusk_29 : decode cX10_dusk 29 = .ok (.bipush (-2), 2) := by decide +kernel
theorem dX10_dusk_31 : decode cX10_dusk 31 = .ok (.ireturn, 1) := by decide +kernel
theorem dX10_dusk_32 : decode cX10_dusk 32 = .ok (.aload_n 0, 1) := by decide +kernel
theorem dX10_dusk_33 : decode cX10_dusk 33 = .ok (.invokevirtual 388, 3) := by decide +kernel
theorem dX10_dusk_36 : decode cX10_dusk 36 = .ok (.istore_n 2, 1) := by decide +kernel
theorem dX10_dusk_37 : decode cX10_dusk 37 = .ok (.iconst 0, 1) := by decide +kernel
theorem dX10_dusk_38 : decode cX10_dusk 38 = .ok (.istore_n 3, 1) := by decide +kernel
theorem dX10_dusk_39 : decode cX10_dusk 39 = .ok (.iload_n 3, 1) := by decide +kernel
theorem dX10_dusk_40 : decode cX10_dusk 40 = .ok (.aload_n 0, 1) := by decide +kernel
theorem dX10_dusk_41 : decode cX10_dusk 41 = .ok (.getfield 94, 3) := by decide +kernel
theorem dX10_dusk_44 : decode cX10_dusk 44 = .ok (.if_icmp .ge 41, 3) := by decide +kernel
theorem dX10_dusk_47 : decode cX10_dusk 47 = .ok (.aload_n 0, 1) := by decide +kernel
theorem dX10_dusk_48 : decode cX10_dusk 48 = .ok (.getfield 65, 3) := by decide +kernel
theorem dX10_dusk_51 : decode cX10_dusk 51 = .ok (.iload_n 3, 1) := by decide +kernel
theorem dX10_dusk_52 : decode cX10_dusk 52 = .ok (.iload_n 2, 1) := by decide +kernel
theorem dX10_dusk_53 : decode cX10_dusk 53 = .ok (.iload_n 3, 1) := by decide +kernel
theorem dX10_dusk_54 : decode cX10_dusk 54 = .ok (.invokestatic 227, 3) := by decide +kernel
theorem dX10_dusk_57 : decode cX10_dusk 57 = .ok (.ifCond .eq 20, 3) := by decide +kernel
theorem dX10_dusk_60 : decode cX10_dusk 60 = .ok (.aload_n 0, 1) := by decide +kernel
theorem dX10_dusk_61 : decode cX10_dusk 61 = .ok (.iload_n 3, 1) := by decide +kernel
theorem dX10_dusk_62 : decode cX10_dusk 62 = .ok (.aload_n 0, 1) := by decide +kernel
theorem dX10_dusk_63 : decode cX10_dusk 63 = .ok (.getfield 9, 3) := by decide +kernel
theorem dX10_dusk_66 : decode cX10_dusk 66 = .ok (.bipush 17, 2) := by decide +kernel
theorem dX10_dusk_68 : decode cX10_dusk 68 = .ok (.iaload, 1) := by decide +kernel
theorem dX10_dusk_69 : decode cX10_dusk 69 = .ok (.iconst 0, 1) := by decide +kernel
theorem dX10_dusk_70 : decode cX10_dusk 70 = .ok (.iconst 0, 1) := by decide +kernel
theorem dX10_dusk_71 : decode cX10_dusk 71 = .ok (.invokevirtual 285, 3) := by decide +kernel
theorem dX10_dusk_74 : decode cX10_dusk 74 = .ok (.goto 4, 3) := by decide +kernel
theorem dX10_dusk_77 : decode cX10_dusk 77 = .ok (.iconst 0, 1) := by decide +kernel
theorem dX10_dusk_78 : decode cX10_dusk 78 = .ok (.iastore, 1) := by decide +kernel
theorem dX10_dusk_79 : decode cX10_dusk 79 = .ok (.iinc 3 1, 3) := by decide +kernel
theorem dX10_dusk_82 : decode cX10_dusk 82 = .ok (.goto (-43), 3) := by decide +kernel
theorem dX10_dusk_85 : decode cX10_dusk 85 = .ok (.iconst 0, 1) := by decide +kernel
theorem dX10_dusk_86 : decode cX10_dusk 86 = .ok (.istore_n 3, 1) := by decide +kernel
theorem dX10_dusk_87 : decode cX10_dusk 87 = .ok (.iconst 0, 1) := by decide +kernel
theorem dX10_dusk_88 : decode cX10_dusk 88 = .ok (.istore 4, 2) := by decide +kernel
theorem dX10_dusk_90 : decode cX10_dusk 90 = .ok (.iconst 0, 1) := by decide +kernel
theorem dX10_dusk_91 : decode cX10_dusk 91 = .ok (.istore 5, 2) := by decide +kernel
theorem dX10_dusk_93 : decode cX10_dusk 93 = .ok (.iload_n 2, 1) := by decide +kernel
theorem dX10_dusk_94 : decode cX10_dusk 94 = .ok (.istore 6, 2) := by decide +kernel
theorem dX10_dusk_96 : decode cX10_dusk 96 = .ok (.iload 6, 2) := by decide +kernel
theorem dX10_dusk_98 : decode cX10_dusk 98 = .ok (.ifCond .le 146, 3) := by decide +kernel
theorem dX10_dusk_101 : decode cX10_dusk 101 = .ok (.iconst 0, 1) := by decide +kernel
theorem dX10_dusk_102 : decode cX10_dusk 102 = .ok (.istore 7, 2) := by decide +kernel
theorem dX10_dusk_104 : decode cX10_dusk 104 = .ok (.iconst 0, 1) := by decide +kernel
theorem dX10_dusk_105 : decode cX10_dusk 105 = .ok (.istore 8, 2) := by decide +kernel
theorem dX10_dusk_107 : decode cX10_dusk 107 = .ok (.iload 6, 2) := by decide +kernel
theorem dX10_dusk_109 : decode cX10_dusk 109 = .ok (.istore 9, 2) := by decide +kernel
theorem dX10_dusk_111 : decode cX10_dusk 111 = .ok (.iload 9, 2) := by decide +kernel
theorem dX10_dusk_113 : decode cX10_dusk 113 = .ok (.ifCond .eq 58, 3) := by decide +kernel
theorem dX10_dusk_116 : decode cX10_dusk 116 = .ok (.iload 7, 2) := by decide +kernel
theorem dX10_dusk_118 : decode cX10_dusk 118 = .ok (.iload_n 1, 1) := by decide +kernel
theorem dX10_dusk_119 : decode cX10_dusk 119 = .ok (.if_icmp .gt 52, 3) := by decide +kernel
theorem dX10_dusk_122 : decode cX10_dusk 122 = .ok (.iload 9, 2) := by decide +kernel
theorem dX10_dusk_124 : decode cX10_dusk 124 = .ok (.invokestatic 340, 3) := by decide +kernel
theorem dX10_dusk_127 : decode cX10_dusk 127 = .ok (.istore 10, 2) := by decide +kernel
theorem dX10_dusk_129 : decode cX10_dusk 129 = .ok (.iload 7, 2) := by decide +kernel
theorem dX10_dusk_131 : decode cX10_dusk 131 = .ok (.aload_n 0, 1) := by decide +kernel
theorem dX10_dusk_132 : decode cX10_dusk 132 = .ok (.getfield 65, 3) := by decide +kernel
theorem dX10_dusk_135 : decode cX10_dusk 135 = .ok (.iload 10, 2) := by decide +kernel
theorem dX10_dusk_137 : decode cX10_dusk 137 = .ok (.iaload, 1) := by decide +kernel
theorem dX10_dusk_138 : decode cX10_dusk 138 = .ok (.iadd, 1) := by decide +kernel
theorem dX10_dusk_139 : decode cX10_dusk 139 = .ok (.istore 7, 2) := by decide +kernel
theorem dX10_dusk_141 : decode cX10_dusk 141 = .ok (.iload 8, 2) := by decide +kernel
theorem dX10_dusk_143 : decode cX10_dusk 143 = .ok (.aload_n 0, 1) := by decide +kernel
theorem dX10_dusk_144 : decode cX10_dusk 144 = .ok (.iload 10, 2) := by decide +kernel
theorem dX10_dusk_146 : decode cX10_dusk 146 = .ok (.aload_n 0, 1) := by decide +kernel
theorem dX10_dusk_147 : decode cX10_dusk 147 = .ok (.getfield 9, 3) := by decide +kernel
theorem dX10_dusk_150 : decode cX10_dusk 150 = .ok (.bipush 16, 2) := by decide +kernel
theorem dX10_dusk_152 : decode cX10_dusk 152 = .ok (.iaload, 1) := by decide +kernel
theorem dX10_dusk_153 : decode cX10_dusk 153 = .ok (.invokevirtual 234, 3) := by decide +kernel
theorem dX10_dusk_156 : decode cX10_dusk 156 = .ok (.iadd, 1) := by decide +kernel
theorem dX10_dusk_157 : decode cX10_dusk 157 = .ok (.istore 8, 2) := by decide +kernel
theorem dX10_dusk_159 : decode cX10_dusk 159 = .ok (.iload 9, 2) := by decide +kernel
theorem dX10_dusk_161 : decode cX10_dusk 161 = .ok (.iload 9, 2) := by decide +kernel
theorem dX10_dusk_163 : decode cX10_dusk 163 = .ok (.iconst 1, 1) := by decide +kernel
theorem dX10_dusk_164 : decode cX10_dusk 164 = .ok (.isub, 1) := by decide +kernel
theorem dX10_dusk_165 : decode cX10_dusk 165 = .ok (.iand, 1) := by decide +kernel
theorem dX10_dusk_166 : decode cX10_dusk 166 = .ok (.istore 9, 2) := by decide +kernel
theorem dX10_dusk_168 : decode cX10_dusk 168 = .ok (.goto (-57), 3) := by decide +kernel
theorem dX10_dusk_171 : decode cX10_dusk 171 = .ok (.iload 7, 2) := by decide +kernel
theorem dX10_dusk_173 : decode cX10_dusk 173 = .ok (.iload_n 1, 1) := by decide +kernel
theorem dX10_dusk_174 : decode cX10_dusk 174 = .ok (.if_icmp .gt 59, 3) := by decide +kernel
theorem dX10_dusk_177 : decode cX10_dusk 177 = .ok (.iload 8, 2) := by decide +kernel
theorem dX10_dusk_179 : decode cX10_dusk 179 = .ok (.iload 4, 2) := by decide +kernel
theorem dX10_dusk_181 : decode cX10_dusk 181 = .ok (.if_icmp .lt 52, 3) := by decide +kernel
theorem dX10_dusk_184 : decode cX10_dusk 184 = .ok (.iload 8, 2) := by decide +kernel
theorem dX10_dusk_186 : decode cX10_dusk 186 = .ok (.iload 4, 2) := by decide +kernel
theorem dX10_dusk_188 : decode cX10_dusk 188 = .ok (.if_icmp .ne 13, 3) := by decide +kernel
theorem dX10_dusk_191 : decode cX10_dusk 191 = .ok (.iload 7, 2) := by decide +kernel
theorem dX10_dusk_193 : decode cX10_dusk 193 = .ok (.iload 5, 2) := by decide +kernel
theorem dX10_dusk_195 : decode cX10_dusk 195 = .ok (.if_icmp .le 6, 3) := by decide +kernel
theorem dX10_dusk_198 : decode cX10_dusk 198 = .ok (.goto 35, 3) := by decide +kernel
theorem dX10_dusk_201 : decode cX10_dusk 201 = .ok (.iload 8, 2) := by decide +kernel
theorem dX10_dusk_203 : decode cX10_dusk 203 = .ok (.iload 4, 2) := by decide +kernel
theorem dX10_dusk_205 : decode cX10_dusk 205 = .ok (.if_icmp .ne 17, 3) := by decide +kernel
theorem dX10_dusk_208 : decode cX10_dusk 208 = .ok (.iload 7, 2) := by decide +kernel
theorem dX10_dusk_210 : decode cX10_dusk 210 = .ok (.iload 5, 2) := by decide +kernel
theorem dX10_dusk_212 : decode cX10_dusk 212 = .ok (.if_icmp .ne 10, 3) := by decide +kernel
theorem dX10_dusk_215 : decode cX10_dusk 215 = .ok (.iload_n 3, 1) := by decide +kernel
theorem dX10_dusk_216 : decode cX10_dusk 216 = .ok (.ifCond .ne 6, 3) := by decide +kernel
theorem dX10_dusk_219 : decode cX10_dusk 219 = .ok (.goto 14, 3) := by decide +kernel
theorem dX10_dusk_222 : decode cX10_dusk 222 = .ok (.iload 6, 2) := by decide +kernel
theorem dX10_dusk_224 : decode cX10_dusk 224 = .ok (.istore_n 3, 1) := by decide +kernel
theorem dX10_dusk_225 : decode cX10_dusk 225 = .ok (.iload 8, 2) := by decide +kernel
theorem dX10_dusk_227 : decode cX10_dusk 227 = .ok (.istore 4, 2) := by decide +kernel
theorem dX10_dusk_229 : decode cX10_dusk 229 = .ok (.iload 7, 2) := by decide +kernel
theorem dX10_dusk_231 : decode cX10_dusk 231 = .ok (.istore 5, 2) := by decide +kernel
theorem dX10_dusk_233 : decode cX10_dusk 233 = .ok (.iload 6, 2) := by decide +kernel
theorem dX10_dusk_235 : decode cX10_dusk 235 = .ok (.iconst 1, 1) := by decide +kernel
theorem dX10_dusk_236 : decode cX10_dusk 236 = .ok (.isub, 1) := by decide +kernel
theorem dX10_dusk_237 : decode cX10_dusk 237 = .ok (.iload_n 2, 1) := by decide +kernel
theorem dX10_dusk_238 : decode cX10_dusk 238 = .ok (.iand, 1) := by decide +kernel
theorem dX10_dusk_239 : decode cX10_dusk 239 = .ok (.istore 6, 2) := by decide +kernel
theorem dX10_dusk_241 : decode cX10_dusk 241 = .ok (.goto (-145), 3) := by decide +kernel
theorem dX10_dusk_244 : decode cX10_dusk 244 = .ok (.aload_n 0, 1) := by decide +kernel
theorem dX10_dusk_245 : decode cX10_dusk 245 = .ok (.iconst 0, 1) := by decide +kernel
theorem dX10_dusk_246 : decode cX10_dusk 246 = .ok (.putfield 91, 3) := by decide +kernel
theorem dX10_dusk_249 : decode cX10_dusk 249 = .ok (.aload_n 0, 1) := by decide +kernel
theorem dX10_dusk_250 : decode cX10_dusk 250 = .ok (.iload_n 3, 1) := by decide +kernel
theorem dX10_dusk_251 : decode cX10_dusk 251 = .ok (.invokevirtual 322, 3) := by decide +kernel
theorem dX10_dusk_254 : decode cX10_dusk 254 = .ok (.aload_n 0, 1) := by decide +kernel
theorem dX10_dusk_255 : decode cX10_dusk 255 = .ok (.iload 5, 2) := by decide +kernel
theorem dX10_dusk_257 : decode cX10_dusk 257 = .ok (.invokevirtual 322, 3) := by decide +kernel
theorem dX10_dusk_260 : decode cX10_dusk 260 = .ok (.iload 4, 2) := by decide +kernel
theorem dX10_dusk_262 : decode cX10_dusk 262 = .ok (.ireturn, 1) := by decide +kernel
theorem dX10_gentle_0 : decode cX10_gentle 0 = .ok (.aload_n 0, 1) := by decide +kernel
theorem dX10_gentle_1 : decode cX10_gentle 1 = .ok (.iconst 0, 1) := by decide +kernel
theorem dX10_gentle_2 : decode cX10_gentle 2 = .ok (.putfield 87, 3) := by decide +kernel
theorem dX10_gentle_5 : decode cX10_gentle 5 = .ok (.aload_n 0, 1) := by decide +kernel
theorem dX10_gentle_6 : decode cX10_gentle 6 = .ok (.getfield 9, 3) := by decide +kernel
theorem dX10_gentle_9 : decode cX10_gentle 9 = .ok (.bipush 17, 2) := by decide +kernel
theorem dX10_gentle_11 : decode cX10_gentle 11 = .ok (.iaload, 1) := by decide +kernel
theorem dX10_gentle_12 : decode cX10_gentle 12 = .ok (.iconst (-1), 1) := by decide +kernel
theorem dX10_gentle_13 : decode cX10_gentle 13 = .ok (.if_icmp .ne 6, 3) := by decide +kernel
theorem dX10_gentle_16 : decode cX10_gentle 16 = .ok (.bipush (-2), 2) := by decide +kernel
theorem dX10_gentle_18 : decode cX10_gentle 18 = .ok (.ireturn, 1) := by decide +kernel
theorem dX10_gentle_19 : decode cX10_gentle 19 = .ok (.aload_n 0, 1) := by decide +kernel
theorem dX10_gentle_20 : decode cX10_gentle 20 = .ok (.invokevirtual 388, 3) := by decide +kernel
theorem dX10_gentle_23 : decode cX10_gentle 23 = .ok (.istore_n 1, 1) := by decide +kernel
theorem dX10_gentle_24 : decode cX10_gentle 24 = .ok (.aload_n 0, 1) := by decide +kernel
theorem dX10_gentle_25 : decode cX10_gentle 25 = .ok (.aload_n 0, 1) := by decide +kernel
theorem dX10_gentle_26 : decode cX10_gentle 26 = .ok (.getfield 9, 3) := by decide +kernel
theorem dX10_gentle_29 : decode cX10_gentle 29 = .ok (.iconst 0, 1) := by decide +kernel
theorem dX10_gentle_30 : decode cX10_gentle 30 = .ok (.invokevirtual 244, 3) := by decide +kernel
theorem dX10_gentle_33 : decode cX10_gentle 33 = .ok (.istore_n 2, 1) := by decide +kernel
theorem dX10_gentle_34 : decode cX10_gentle 34 = .ok (.aload_n 0, 1) := by decide +kernel
theorem dX10_gentle_35 : decode cX10_gentle 35 = .ok (.iconst 0, 1) := by decide +kernel
theorem dX10_gentle_36 : decode cX10_gentle 36 = .ok (.putfield 91, 3) := by decide +kernel
theorem dX10_gentle_39 : decode cX10_gentle 39 = .ok (.iconst 1, 1) := by decide +kernel
theorem dX10_gentle_40 : decode cX10_gentle 40 = .ok (.istore_n 3, 1) := by decide +kernel
theorem dX10_gentle_41 : decode cX10_gentle 41 = .ok (.iload_n 3, 1) := by decide +kernel
theorem dX10_gentle_42 : decode cX10_gentle 42 = .ok (.ifCond .eq 78, 3) := by decide +kernel
theorem dX10_gentle_45 : decode cX10_gentle 45 = .ok (.iconst 0, 1) := by decide +kernel
theorem dX10_gentle_46 : decode cX10_gentle 46 = .ok (.istore_n 3, 1) := by decide +kernel
theorem dX10_gentle_47 : decode cX10_gentle 47 = .ok (.iconst 0, 1) := by decide +kernel
theorem dX10_gentle_48 : decode cX10_gentle 48 = .ok (.istore 4, 2) := by decide +kernel
theorem dX10_gentle_50 : decode cX10_gentle 50 = .ok (.iload 4, 2) := by decide +kernel
theorem dX10_gentle_52 : decode cX10_gentle 52 = .ok (.aload_n 0, 1) := by decide +kernel
theorem dX10_gentle_53 : decode cX10_gentle 53 = .ok (.getfield 94, 3) := by decide +kernel
theorem dX10_gentle_56 : decode cX10_gentle 56 = .ok (.if_icmp .ge 61, 3) := by decide +kernel
theorem dX10_gentle_59 : decode cX10_gentle 59 = .ok (.iload_n 3, 1) := by decide +kernel
theorem dX10_gentle_60 : decode cX10_gentle 60 = .ok (.ifCond .ne 57, 3) := by decide +kernel
theorem dX10_gentle_63 : decode cX10_gentle 63 = .ok (.iload_n 1, 1) := by decide +kernel
theorem dX10_gentle_64 : decode cX10_gentle 64 = .ok (.iload 4, 2) := by decide +kernel
theorem dX10_gentle_66 : decode cX10_gentle 66 = .ok (.invokestatic 227, 3) := by decide +kernel
theorem dX10_gentle_69 : decode cX10_gentle 69 = .ok (.ifCond .eq 42, 3) := by decide +kernel
theorem dX10_gentle_72 : decode cX10_gentle 72 = .ok (.aload_n 0, 1) := by decide +kernel
theorem dX10_gentle_73 : decode cX10_gentle 73 = .ok (.iload 4, 2) := by decide +kernel
theorem dX10_gentle_75 : decode cX10_gentle 75 = .ok (.iload_n 2, 1) := by decide +kernel
theorem dX10_gentle_76 : decode cX10_gentle 76 = .ok (.invokevirtual 248, 3) := by decide +kernel
theorem dX10_gentle_79 : decode cX10_gentle 79 = .ok (.ifCond .eq 6, 3) := by decide +kernel
theorem dX10_gentle_82 : decode cX10_gentle 82 = .ok (.goto 29, 3) := by decide +kernel
theorem dX10_gentle_85 : decode cX10_gentle 85 = .ok (.aload_n 0, 1) := by decide +kernel
theorem dX10_gentle_86 : decode cX10_gentle 86 = .ok (.iload 4, 2) := by decide +kernel
theorem dX10_gentle_88 : decode cX10_gentle 88 = .ok (.invokevirtual 322, 3) := by decide +kernel
theorem dX10_gentle_91 : decode cX10_gentle 91 = .ok (.iload_n 1, 1) := by decide +kernel
theorem dX10_gentle_92 : decode cX10_gentle 92 = .ok (.iconst 1, 1) := by decide +kernel
theorem dX10_gentle_93 : decode cX10_gentle 93 = .ok (.iload 4, 2) := by decide +kernel
theorem dX10_gentle_95 : decode cX10_gentle 95 = .ok (.ishl, 1) := by decide +kernel
theorem dX10_gentle_96 : decode cX10_gentle 96 = .ok (.iconst (-1), 1) := by decide +kernel
theorem dX10_gentle_97 : decode cX10_gentle 97 = .ok (.ixor, 1) := by decide +kernel
theorem dX10_gentle_98 : decode cX10_gentle 98 = .ok (.iand, 1) := by decide +kernel
theorem dX10_gentle_99 : decode cX10_gentle 99 = .ok (.istore_n 1, 1) := by decide +kernel
theorem dX10_gentle_100 : decode cX10_gentle 100 = .ok (.iload_n 2, 1) := by decide +kernel
theorem dX10_gentle_101 : decode cX10_gentle 101 = .ok (.iconst 1, 1) := by decide +kernel
theorem dX10_gentle_102 : decode cX10_gentle 102 = .ok (.iload 4, 2) := by decide +kernel
theorem dX10_gentle_104 : decode cX10_gentle 104 = .ok (.ishl, 1) := by decide +kernel
