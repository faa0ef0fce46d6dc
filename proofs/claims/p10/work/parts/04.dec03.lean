theorem dX7_reckon_73 : decode cX7_reckon 73 = .ok (.getfield 26, 3) := by decide +kernel
theorem dX7_reckon_76 : decode cX7_reckon 76 = .ok (.iload_n 1, 1) := by decide +kernel
theorem dX7_reckon_77 : decode cX7_reckon 77 = .ok (.iconst 1, 1) := by decide +kernel
theorem dX7_reckon_78 : decode cX7_reckon 78 = .ok (.isub, 1) := by decide +kernel
theorem dX7_reckon_79 : decode cX7_reckon 79 = .ok (.aload_n 0, 1) := by decide +kernel
theorem dX7_reckon_80 : decode cX7_reckon 80 = .ok (.getfield 26, 3) := by decide +kernel
theorem dX7_reckon_83 : decode cX7_reckon 83 = .ok (.iload_n 1, 1) := by decide +kernel
theorem dX7_reckon_84 : decode cX7_reckon 84 = .ok (.iconst 1, 1) := by decide +kernel
theorem dX7_reckon_85 : decode cX7_reckon 85 = .ok (.isub, 1) := by decide +kernel
theorem dX7_reckon_86 : decode cX7_reckon 86 = .ok (.iaload, 1) := by decide +kernel
theorem dX7_reckon_87 : decode cX7_reckon 87 = .ok (.ineg, 1) := by decide +kernel
theorem dX7_reckon_88 : decode cX7_reckon 88 = .ok (.iastore, 1) := by decide +kernel
theorem dX7_reckon_89 : decode cX7_reckon 89 = .ok (.goto 41, 3) := by decide +kernel
theorem dX7_reckon_92 : decode cX7_reckon 92 = .ok (.iload_n 1, 1) := by decide +kernel
theorem dX7_reckon_93 : decode cX7_reckon 93 = .ok (.iconst 1, 1) := by decide +kernel
theorem dX7_reckon_94 : decode cX7_reckon 94 = .ok (.if_icmp .le 36, 3) := by decide +kernel
theorem dX7_reckon_97 : decode cX7_reckon 97 = .ok (.iinc 1 (-1), 3) := by decide +kernel
theorem dX7_reckon_100 : decode cX7_reckon 100 = .ok (.aload_n 0, 1) := by decide +kernel
theorem dX7_reckon_101 : decode cX7_reckon 101 = .ok (.getfield 26, 3) := by decide +kernel
theorem dX7_reckon_104 : decode cX7_reckon 104 = .ok (.iload_n 1, 1) := by decide +kernel
theorem dX7_reckon_105 : decode cX7_reckon 105 = .ok (.iconst 1, 1) := by decide +kernel
theorem dX7_reckon_106 : decode cX7_reckon 106 = .ok (.isub, 1) := by decide +kernel
theorem dX7_reckon_107 : decode cX7_reckon 107 = .ok (.iload_n 3, 1) := by decide +kernel
theorem dX7_reckon_108 : decode cX7_reckon 108 = .ok (.sipush 2000, 3) := by decide +kernel
theorem dX7_reckon_111 : decode cX7_reckon 111 = .ok (.isub, 1) := by decide +kernel
theorem dX7_reckon_112 : decode cX7_reckon 112 = .ok (.aload_n 0, 1) := by decide +kernel
theorem dX7_reckon_113 : decode cX7_reckon 113 = .ok (.getfield 26, 3) := by decide +kernel
theorem dX7_reckon_116 : decode cX7_reckon 116 = .ok (.iload_n 1, 1) := by decide +kernel
theorem dX7_reckon_117 : decode cX7_reckon 117 = .ok (.iconst 1, 1) := by decide +kernel
theorem dX7_reckon_118 : decode cX7_reckon 118 = .ok (.isub, 1) := by decide +kernel
theorem dX7_reckon_119 : decode cX7_reckon 119 = .ok (.iaload, 1) := by decide +kernel
theorem dX7_reckon_120 : decode cX7_reckon 120 = .ok (.aload_n 0, 1) := by decide +kernel
theorem dX7_reckon_121 : decode cX7_reckon 121 = .ok (.getfield 26, 3) := by decide +kernel
theorem dX7_reckon_124 : decode cX7_reckon 124 = .ok (.iload_n 1, 1) := by decide +kernel
theorem dX7_reckon_125 : decode cX7_reckon 125 = .ok (.iaload, 1) := by decide +kernel
theorem dX7_reckon_126 : decode cX7_reckon 126 = .ok (.invokestatic 105, 3) := by decide +kernel
theorem dX7_reckon_129 : decode cX7_reckon 129 = .ok (.iastore, 1) := by decide +kernel
theorem dX7_reckon_130 : decode cX7_reckon 130 = .ok (.iinc 2 1, 3) := by decide +kernel
theorem dX7_reckon_133 : decode cX7_reckon 133 = .ok (.goto (-129), 3) := by decide +kernel
theorem dX7_reckon_136 : decode cX7_reckon 136 = .ok (.iload_n 1, 1) := by decide +kernel
theorem dX7_reckon_137 : decode cX7_reckon 137 = .ok (.ifCond .le 14, 3) := by decide +kernel
theorem dX7_reckon_140 : decode cX7_reckon 140 = .ok (.aload_n 0, 1) := by decide +kernel
theorem dX7_reckon_141 : decode cX7_reckon 141 = .ok (.getfield 26, 3) := by decide +kernel
theorem dX7_reckon_144 : decode cX7_reckon 144 = .ok (.iload_n 1, 1) := by decide +kernel
theorem dX7_reckon_145 : decode cX7_reckon 145 = .ok (.iconst 1, 1) := by decide +kernel
theorem dX7_reckon_146 : decode cX7_reckon 146 = .ok (.isub, 1) := by decide +kernel
theorem dX7_reckon_147 : decode cX7_reckon 147 = .ok (.iaload, 1) := by decide +kernel
theorem dX7_reckon_148 : decode cX7_reckon 148 = .ok (.goto 4, 3) := by decide +kernel
theorem dX7_reckon_151 : decode cX7_reckon 151 = .ok (.iconst 0, 1) := by decide +kernel
theorem dX7_reckon_152 : decode cX7_reckon 152 = .ok (.ireturn, 1) := by decide +kernel
theorem dX0_pickSeconds_0 : decode cX0_pickSeconds 0 = .ok (.aload_n 0, 1) := by decide +kernel
theorem dX0_pickSeconds_1 : decode cX0_pickSeconds 1 = .ok (.getfield 28, 3) := by decide +kernel
theorem dX0_pickSeconds_4 : decode cX0_pickSeconds 4 = .ok (.getfield 75, 3) := by decide +kernel
theorem dX0_pickSeconds_7 : decode cX0_pickSeconds 7 = .ok (.astore 5, 2) := by decide +kernel
theorem dX0_pickSeconds_9 : decode cX0_pickSeconds 9 = .ok (.aload_n 0, 1) := by decide +kernel
theorem dX0_pickSeconds_10 : decode cX0_pickSeconds 10 = .ok (.getfield 12, 3) := by decide +kernel
theorem dX0_pickSeconds_13 : decode cX0_pickSeconds 13 = .ok (.iload_n 1, 1) := by decide +kernel
theorem dX0_pickSeconds_14 : decode cX0_pickSeconds 14 = .ok (.iload_n 2, 1) := by decide +kernel
theorem dX0_pickSeconds_15 : decode cX0_pickSeconds 15 = .ok (.invokevirtual 79, 3) := by decide +kernel
theorem dX0_pickSeconds_18 : decode cX0_pickSeconds 18 = .ok (.istore 6, 2) := by decide +kernel
theorem dX0_pickSeconds_20 : decode cX0_pickSeconds 20 = .ok (.aload_n 0, 1) := by decide +kernel
theorem dX0_pickSeconds_21 : decode cX0_pickSeconds 21 = .ok (.getfield 12, 3) := by decide +kernel
theorem dX0_pickSeconds_24 : decode cX0_pickSeconds 24 = .ok (.iload_n 1, 1) := by decide +kernel
theorem dX0_pickSeconds_25 : decode cX0_pickSeconds 25 = .ok (.iload_n 2, 1) := by decide +kernel
theorem dX0_pickSeconds_26 : decode cX0_pickSeconds 26 = .ok (.invokevirtual 82, 3) := by decide +kernel
theorem dX0_pickSeconds_29 : decode cX0_pickSeconds 29 = .ok (.istore 7, 2) := by decide +kernel
theorem dX0_pickSeconds_31 : decode cX0_pickSeconds 31 = .ok (.aload 5, 2) := by decide +kernel
theorem dX0_pickSeconds_33 : decode cX0_pickSeconds 33 = .ok (.arraylength, 1) := by decide +kernel
theorem dX0_pickSeconds_34 : decode cX0_pickSeconds 34 = .ok (.bipush 7, 2) := by decide +kernel
theorem dX0_pickSeconds_36 : decode cX0_pickSeconds 36 = .ok (.if_icmp .lt 56, 3) := by decide +kernel
theorem dX0_pickSeconds_39 : decode cX0_pickSeconds 39 = .ok (.aload 5, 2) := by decide +kernel
theorem dX0_pickSeconds_41 : decode cX0_pickSeconds 41 = .ok (.iconst 0, 1) := by decide +kernel
theorem dX0_pickSeconds_42 : decode cX0_pickSeconds 42 = .ok (.iload 6, 2) := by decide +kernel
theorem dX0_pickSeconds_44 : decode cX0_pickSeconds 44 = .ok (.iastore, 1) := by decide +kernel
theorem dX0_pickSeconds_45 : decode cX0_pickSeconds 45 = .ok (.aload 5, 2) := by decide +kernel
theorem dX0_pickSeconds_47 : decode cX0_pickSeconds 47 = .ok (.iconst 1, 1) := by decide +kernel
theorem dX0_pickSeconds_48 : decode cX0_pickSeconds 48 = .ok (.iload 7, 2) := by decide +kernel
theorem dX0_pickSeconds_50 : decode cX0_pickSeconds 50 = .ok (.iastore, 1) := by decide +kernel
theorem dX0_pickSeconds_51 : decode cX0_pickSeconds 51 = .ok (.aload 5, 2) := by decide +kernel
theorem dX0_pickSeconds_53 : decode cX0_pickSeconds 53 = .ok (.iconst 2, 1) := by decide +kernel
theorem dX0_pickSeconds_54 : decode cX0_pickSeconds 54 = .ok (.aload_n 0, 1) := by decide +kernel
theorem dX0_pickSeconds_55 : decode cX0_pickSeconds 55 = .ok (.getfield 12, 3) := by decide +kernel
theorem dX0_pickSeconds_58 : decode cX0_pickSeconds 58 = .ok (.getfield 85, 3) := by decide +kernel
theorem dX0_pickSeconds_61 : decode cX0_pickSeconds 61 = .ok (.iload_n 1, 1) := by decide +kernel
theorem dX0_pickSeconds_62 : decode cX0_pickSeconds 62 = .ok (.iaload, 1) := by decide +kernel
theorem dX0_pickSeconds_63 : decode cX0_pickSeconds 63 = .ok (.iastore, 1) := by decide +kernel
theorem dX0_pickSeconds_64 : decode cX0_pickSeconds 64 = .ok (.aload 5, 2) := by decide +kernel
theorem dX0_pickSeconds_66 : decode cX0_pickSeconds 66 = .ok (.iconst 3, 1) := by decide +kernel
theorem dX0_pickSeconds_67 : decode cX0_pickSeconds 67 = .ok (.aload_n 0, 1) := by decide +kernel
theorem dX0_pickSeconds_68 : decode cX0_pickSeconds 68 = .ok (.iconst 1, 1) := by decide +kernel
theorem dX0_pickSeconds_69 : decode cX0_pickSeconds 69 = .ok (.iload_n 1, 1) := by decide +kernel
theorem dX0_pickSeconds_70 : decode cX0_pickSeconds 70 = .ok (.ishl, 1) := by decide +kernel
theorem dX0_pickSeconds_71 : decode cX0_pickSeconds 71 = .ok (.invokevirtual 88, 3) := by decide +kernel
theorem dX0_pickSeconds_74 : decode cX0_pickSeconds 74 = .ok (.iastore, 1) := by decide +kernel
theorem dX0_pickSeconds_75 : decode cX0_pickSeconds 75 = .ok (.aload 5, 2) := by decide +kernel
theorem dX0_pickSeconds_77 : decode cX0_pickSeconds 77 = .ok (.iconst 4, 1) := by decide +kernel
theorem dX0_pickSeconds_78 : decode cX0_pickSeconds 78 = .ok (.iload_n 2, 1) := by decide +kernel
theorem dX0_pickSeconds_79 : decode cX0_pickSeconds 79 = .ok (.iastore, 1) := by decide +kernel
theorem dX0_pickSeconds_80 : decode cX0_pickSeconds 80 = .ok (.aload 5, 2) := by decide +kernel
theorem dX0_pickSeconds_82 : decode cX0_pickSeconds 82 = .ok (.iconst 5, 1) := by decide +kernel
theorem dX0_pickSeconds_83 : decode cX0_pickSeconds 83 = .ok (.iload 4, 2) := by decide +kernel
theorem dX0_pickSeconds_85 : decode cX0_pickSeconds 85 = .ok (.iastore, 1) := by decide +kernel
theorem dX0_pickSeconds_86 : decode cX0_pickSeconds 86 = .ok (.aload 5, 2) := by decide +kernel
theorem dX0_pickSeconds_88 : decode cX0_pickSeconds 88 = .ok (.bipush 6, 2) := by decide +kernel
theorem dX0_pickSeconds_90 : decode cX0_pickSeconds 90 = .ok (.iload_n 3, 1) := by decide +kernel
theorem dX0_pickSeconds_91 : decode cX0_pickSeconds 91 = .ok (.iastore, 1) := by decide +kernel
theorem dX0_pickSeconds_92 : decode cX0_pickSeconds 92 = .ok (.aload_n 0, 1) := by decide +kernel
theorem dX0_pickSeconds_93 : decode cX0_pickSeconds 93 = .ok (.getfield 28, 3) := by decide +kernel
theorem dX0_pickSeconds_96 : decode cX0_pickSeconds 96 = .ok (.getfield 90, 3) := by decide +kernel
theorem dX0_pickSeconds_99 : decode cX0_pickSeconds 99 = .ok (.ifCond .ne 17, 3) := by decide +kernel
theorem dX0_pickSeconds_102 : decode cX0_pickSeconds 102 = .ok (.iconst 2, 1) := by decide +kernel
theorem dX0_pickSeconds_103 : decode cX0_pickSeconds 103 = .ok (.iload 6, 2) := by decide +kernel
theorem dX0_pickSeconds_105 : decode cX0_pickSeconds 105 = .ok (.iconst 4, 1) := by decide +kernel
theorem dX0_pickSeconds_106 : decode cX0_pickSeconds 106 = .ok (.idiv, 1) := by decide +kernel
theorem dX0_pickSeconds_107 : decode cX0_pickSeconds 107 = .ok (.iadd, 1) := by decide +kernel
theorem dX0_pickSeconds_108 : decode cX0_pickSeconds 108 = .ok (.iload 7, 2) := by decide +kernel
theorem dX0_pickSeconds_110 : decode cX0_pickSeconds 110 = .ok (.iconst 2, 1) := by decide +kernel
theorem dX0_pickSeconds_111 : decode cX0_pickSeconds 111 = .ok (.idiv, 1) := by decide +kernel
theorem dX0_pickSeconds_112 : decode cX0_pickSeconds 112 = .ok (.iadd, 1) := by decide +kernel
theorem dX0_pickSeconds_113 : decode cX0_pickSeconds 113 = .ok (.goto 10, 3) := by decide +kernel
theorem dX0_pickSeconds_116 : decode cX0_pickSeconds 116 = .ok (.aload_n 0, 1) := by decide +kernel
theorem dX0_pickSeconds_117 : decode cX0_pickSeconds 117 = .ok (.getfield 28, 3) := by decide +kernel
theorem dX0_pickSeconds_120 : decode cX0_pickSeconds 120 = .ok (.invokevirtual 93, 3) := by decide +kernel
theorem dX0_pickSeconds_123 : decode cX0_pickSeconds 123 = .ok (.istore 8, 2) := by decide +kernel
theorem dX0_pickSeconds_125 : decode cX0_pickSeconds 125 = .ok (.iconst 1, 1) := by decide +kernel
theorem dX0_pickSeconds_126 : decode cX0_pickSeconds 126 = .ok (.bipush 99, 2) := by decide +kernel
theorem dX0_pickSeconds_128 : decode cX0_pickSeconds 128 = .ok (.iload 8, 2) := by decide +kernel
theorem dX0_pickSeconds_130 : decode cX0_pickSeconds 130 = .ok (.invokestatic 96, 3) := by decide +kernel
theorem dX0_pickSeconds_133 : decode cX0_pickSeconds 133 = .ok (.invokestatic 101, 3) := by decide +kernel
theorem dX0_pickSeconds_136 : decode cX0_pickSeconds 136 = .ok (.ireturn, 1) := by decide +kernel
theorem dX0_pickFruit_0 : decode cX0_pickFruit 0 = .ok (.aload_n 0, 1) := by decide +kernel
theorem dX0_pickFruit_1 : decode cX0_pickFruit 1 = .ok (.getfield 12, 3) := by decide +kernel
theorem dX0_pickFruit_4 : decode cX0_pickFruit 4 = .ok (.iload_n 1, 1) := by decide +kernel
theorem dX0_pickFruit_5 : decode cX0_pickFruit 5 = .ok (.invokevirtual 124, 3) := by decide +kernel
theorem dX0_pickFruit_8 : decode cX0_pickFruit 8 = .ok (.ifCond .eq 10, 3) := by decide +kernel
theorem dX0_pickFruit_11 : decode cX0_pickFruit 11 = .ok (.iload_n 2, 1) := by decide +kernel
theorem dX0_pickFruit_12 : decode cX0_pickFruit 12 = .ok (.invokestatic 121, 3) := by decide +kernel
theorem dX0_pickFruit_15 : decode cX0_pickFruit 15 = .ok (.ifCond .ne 5, 3) := by decide +kernel
theorem dX0_pickFruit_18 : decode cX0_pickFruit 18 = .ok (.iconst (-1), 1) := by decide +kernel
theorem dX0_pickFruit_19 : decode cX0_pickFruit 19 = .ok (.ireturn, 1) := by decide +kernel
theorem dX0_pickFruit_20 : decode cX0_pickFruit 20 = .ok (.aload_n 0, 1) := by decide +kernel
theorem dX0_pickFruit_21 : decode cX0_pickFruit 21 = .ok (.invokevirtual 65, 3) := by decide +kernel
theorem dX0_pickFruit_24 : decode cX0_pickFruit 24 = .ok (.istore_n 3, 1) := by decide +kernel
theorem dX0_pickFruit_25 : decode cX0_pickFruit 25 = .ok (.iload_n 3, 1) := by decide +kernel
theorem dX0_pickFruit_26 : decode cX0_pickFruit 26 = .ok (.iload_n 1, 1) := by decide +kernel
theorem dX0_pickFruit_27 : decode cX0_pickFruit 27 = .ok (.ishr, 1) := by decide +kernel
theorem dX0_pickFruit_28 : decode cX0_pickFruit 28 = .ok (.iconst 1, 1) := by decide +kernel
theorem dX0_pickFruit_29 : decode cX0_pickFruit 29 = .ok (.iand, 1) := by decide +kernel
theorem dX0_pickFruit_30 : decode cX0_pickFruit 30 = .ok (.ifCond .ne 6, 3) := by decide +kernel
theorem dX0_pickFruit_33 : decode cX0_pickFruit 33 = .ok (.bipush (-2), 2) := by decide +kernel
theorem dX0_pickFruit_35 : decode cX0_pickFruit 35 = .ok (.ireturn, 1) := by decide +kernel
theorem dX0_pickFruit_36 : decode cX0_pickFruit 36 = .ok (.aload_n 0, 1) := by decide +kernel
theorem dX0_pickFruit_37 : decode cX0_pickFruit 37 = .ok (.getfield 12, 3) := by decide +kernel
theorem dX0_pickFruit_40 : decode cX0_pickFruit 40 = .ok (.getfield 127, 3) := by decide +kernel
theorem dX0_pickFruit_43 : decode cX0_pickFruit 43 = .ok (.iload_n 1, 1) := by decide +kernel
theorem dX0_pickFruit_44 : decode cX0_pickFruit 44 = .ok (.iaload, 1) := by decide +kernel
theorem dX0_pickFruit_45 : decode cX0_pickFruit 45 = .ok (.aload_n 0, 1) := by decide +kernel
theorem dX0_pickFruit_46 : decode cX0_pickFruit 46 = .ok (.getfield 21, 3) := by decide +kernel
theorem dX0_pickFruit_49 : decode cX0_pickFruit 49 = .ok (.getfield 68, 3) := by decide +kernel
theorem dX0_pickFruit_52 : decode cX0_pickFruit 52 = .ok (.if_icmp .le 6, 3) := by decide +kernel
theorem dX0_pickFruit_55 : decode cX0_pickFruit 55 = .ok (.bipush (-3), 2) := by decide +kernel
theorem dX0_pickFruit_57 : decode cX0_pickFruit 57 = .ok (.ireturn, 1) := by decide +kernel
theorem dX0_pickFruit_58 : decode cX0_pickFruit 58 = .ok (.aload_n 0, 1) := by decide +kernel
theorem dX0_pickFruit_59 : decode cX0_pickFruit 59 = .ok (.getfield 21, 3) := by decide +kernel
theorem dX0_pickFruit_62 : decode cX0_pickFruit 62 = .ok (.getfield 53, 3) := by decide +kernel
theorem dX0_pickFruit_65 : decode cX0_pickFruit 65 = .ok (.iconst (-1), 1) := by decide +kernel
theorem dX0_pickFruit_66 : decode cX0_pickFruit 66 = .ok (.if_icmp .eq 36, 3) := by decide +kernel
theorem dX0_pickFruit_69 : decode cX0_pickFruit 69 = .ok (.aload_n 0, 1) := by decide +kernel
theorem dX0_pickFruit_70 : decode cX0_pickFruit 70 = .ok (.getfield 12, 3) := by decide +kernel
theorem dX0_pickFruit_73 : decode cX0_pickFruit 73 = .ok (.iload_n 1, 1) := by decide +kernel
theorem dX0_pickFruit_74 : decode cX0_pickFruit 74 = .ok (.aload_n 0, 1) := by decide +kernel
theorem dX0_pickFruit_75 : decode cX0_pickFruit 75 = .ok (.getfield 21, 3) := by decide +kernel
theorem dX0_pickFruit_78 : decode cX0_pickFruit 78 = .ok (.getfield 53, 3) := by decide +kernel
theorem dX0_pickFruit_81 : decode cX0_pickFruit 81 = .ok (.aload_n 0, 1) := by decide +kernel
theorem dX0_pickFruit_82 : decode cX0_pickFruit 82 = .ok (.getfield 12, 3) := by decide +kernel
theorem dX0_pickFruit_85 : decode cX0_pickFruit 85 = .ok (.aload_n 0, 1) := by decide +kernel
theorem dX0_pickFruit_86 : decode cX0_pickFruit 86 = .ok (.getfield 21, 3) := by decide +kernel
theorem dX0_pickFruit_89 : decode cX0_pickFruit 89 = .ok (.getfield 56, 3) := by decide +kernel
theorem dX0_pickFruit_92 : decode cX0_pickFruit 92 = .ok (.iload_n 2, 1) := by decide +kernel
theorem dX0_pickFruit_93 : decode cX0_pickFruit 93 = .ok (.invokevirtual 59, 3) := by decide +kernel
theorem dX0_pickFruit_96 : decode cX0_pickFruit 96 = .ok (.invokevirtual 130, 3) := by decide +kernel
theorem dX0_pickFruit_99 : decode cX0_pickFruit 99 = .ok (.ifCond .ne 6, 3) := by decide +kernel
theorem dX0_pickFruit_102 : decode cX0_pickFruit 102 = .ok (.bipush (-4), 2) := by decide +kernel
theorem dX0_pickFruit_104 : decode cX0_pickFruit 104 = .ok (.ireturn, 1) := by decide +kernel
theorem dX0_pickFruit_105 : decode cX0_pickFruit 105 = .ok (.aload_n 0, 1) := by decide +kernel
theorem dX0_pickFruit_106 : decode cX0_pickFruit 106 = .ok (.getfield 21, 3) := by decide +kernel
theorem dX0_pickFruit_109 : decode cX0_pickFruit 109 = .ok (.getfield 36, 3) := by decide +kernel
theorem dX0_pickFruit_112 : decode cX0_pickFruit 112 = .ok (.invokestatic 134, 3) := by decide +kernel
theorem dX0_pickFruit_115 : decode cX0_pickFruit 115 = .ok (.istore 4, 2) := by decide +kernel
theorem dX0_pickFruit_117 : decode cX0_pickFruit 117 = .ok (.iload 4, 2) := by decide +kernel
theorem dX0_pickFruit_119 : decode cX0_pickFruit 119 = .ok (.aload_n 0, 1) := by decide +kernel
theorem dX0_pickFruit_120 : decode cX0_pickFruit 120 = .ok (.getfield 12, 3) := by decide +kernel
theorem dX0_pickFruit_123 : decode cX0_pickFruit 123 = .ok (.getfield 139, 3) := by decide +kernel
theorem dX0_pickFruit_126 : decode cX0_pickFruit 126 = .ok (.iconst 4, 1) := by decide +kernel
theorem dX0_pickFruit_127 : decode cX0_pickFruit 127 = .ok (.iaload, 1) := by decide +kernel
theorem dX0_pickFruit_128 : decode cX0_pickFruit 128 = .ok (.if_icmp .lt 6, 3) := by decide +kernel
theorem dX0_pickFruit_131 : decode cX0_pickFruit 131 = .ok (.bipush (-5), 2) := by decide +kernel
theorem dX0_pickFruit_133 : decode cX0_pickFruit 133 = .ok (.ireturn, 1) := by decide +kernel
theorem dX0_pickFruit_134 : decode cX0_pickFruit 134 = .ok (.aload_n 0, 1) := by decide +kernel
theorem dX0_pickFruit_135 : decode cX0_pickFruit 135 = .ok (.iload_n 1, 1) := by decide +kernel
theorem dX0_pickFruit_136 : decode cX0_pickFruit 136 = .ok (.aload_n 0, 1) := by decide +kernel
theorem dX0_pickFruit_137 : decode cX0_pickFruit 137 = .ok (.getfield 21, 3) := by decide +kernel
theorem dX0_pickFruit_140 : decode cX0_pickFruit 140 = .ok (.getfield 53, 3) := by decide +kernel
theorem dX0_pickFruit_143 : decode cX0_pickFruit 143 = .ok (.iload_n 2, 1) := by decide +kernel
theorem dX0_pickFruit_144 : decode cX0_pickFruit 144 = .ok (.iload 4, 2) := by decide +kernel
theorem dX0_pickFruit_146 : decode cX0_pickFruit 146 = .ok (.invokevirtual 142, 3) := by decide +kernel
theorem dX0_pickFruit_149 : decode cX0_pickFruit 149 = .ok (.istore 5, 2) := by decide +kernel
theorem dX0_pickFruit_151 : decode cX0_pickFruit 151 = .ok (.aload_n 0, 1) := by decide +kernel
theorem dX0_pickFruit_152 : decode cX0_pickFruit 152 = .ok (.getfield 21, 3) := by decide +kernel
theorem dX0_pickFruit_155 : decode cX0_pickFruit 155 = .ok (.dup, 1) := by decide +kernel
theorem dX0_pickFruit_156 : decode cX0_pickFruit 156 = .ok (.getfield 46, 3) := by decide +kernel
theorem dX0_pickFruit_159 : decode cX0_pickFruit 159 = .ok (.aload_n 0, 1) := by decide +kernel
theorem dX0_pickFruit_160 : decode cX0_pickFruit 160 = .ok (.getfield 12, 3) := by decide +kernel
theorem dX0_pickFruit_163 : decode cX0_pickFruit 163 = .ok (.iload_n 1, 1) := by decide +kernel
theorem dX0_pickFruit_164 : decode cX0_pickFruit 164 = .ok (.iload_n 3, 1) := by decide +kernel
theorem dX0_pickFruit_165 : decode cX0_pickFruit 165 = .ok (.invokevirtual 146, 3) := by decide +kernel
theorem dX0_pickFruit_168 : decode cX0_pickFruit 168 = .ok (.ior, 1) := by decide +kernel
theorem dX0_pickFruit_169 : decode cX0_pickFruit 169 = .ok (.putfield 46, 3) := by decide +kernel
theorem dX0_pickFruit_172 : decode cX0_pickFruit 172 = .ok (.aload_n 0, 1) := by decide +kernel
theorem dX0_pickFruit_173 : decode cX0_pickFruit 173 = .ok (.getfield 21, 3) := by decide +kernel
theorem dX0_pickFruit_176 : decode cX0_pickFruit 176 = .ok (.dup, 1) := by decide +kernel
theorem dX0_pickFruit_177 : decode cX0_pickFruit 177 = .ok (.getfield 36, 3) := by decide +kernel
theorem dX0_pickFruit_180 : decode cX0_pickFruit 180 = .ok (.iconst 1, 1) := by decide +kernel
theorem dX0_pickFruit_181 : decode cX0_pickFruit 181 = .ok (.iload_n 1, 1) := by decide +kernel
theorem dX0_pickFruit_182 : decode cX0_pickFruit 182 = .ok (.ishl, 1) := by decide +kernel
theorem dX0_pickFruit_183 : decode cX0_pickFruit 183 = .ok (.ior, 1) := by decide +kernel
theorem dX0_pickFruit_184 : decode cX0_pickFruit 184 = .ok (.putfield 36, 3) := by decide +kernel
theorem dX0_pickFruit_187 : decode cX0_pickFruit 187 = .ok (.aload_n 0, 1) := by decide +kernel
theorem dX0_pickFruit_188 : decode cX0_pickFruit 188 = .ok (.getfield 21, 3) := by decide +kernel
theorem dX0_pickFruit_191 : decode cX0_pickFruit 191 = .ok (.iload 5, 2) := by decide +kernel
theorem dX0_pickFruit_193 : decode cX0_pickFruit 193 = .ok (.invokevirtual 117, 3) := by decide +kernel
theorem dX0_pickFruit_196 : decode cX0_pickFruit 196 = .ok (.iload 5, 2) := by decide +kernel
theorem dX0_pickFruit_198 : decode cX0_pickFruit 198 = .ok (.ireturn, 1) := by decide +kernel
theorem dX9_pick_0 : decode cX9_pick 0 = .ok (.aload_n 0, 1) := by decide +kernel
theorem dX9_pick_1 : decode cX9_pick 1 = .ok (.getfield 43, 3) := by decide +kernel
theorem dX9_pick_4 : decode cX9_pick 4 = .ok (.aload_n 0, 1) := by decide +kernel
theorem dX9_pick_5 : decode cX9_pick 5 = .ok (.getfield 39, 3) := by decide +kernel
theorem dX9_pick_8 : decode cX9_pick 8 = .ok (.invokevirtual 175, 3) := by decide +kernel
theorem dX9_pick_11 : decode cX9_pick 11 = .ok (.aload_n 0, 1) := by decide +kernel
theorem dX9_pick_12 : decode cX9_pick 12 = .ok (.aload_n 0, 1) := by decide +kernel
theorem dX9_pick_13 : decode cX9_pick 13 = .ok (.getfield 27, 3) := by decide +kernel
theorem dX9_pick_16 : decode cX9_pick 16 = .ok (.iload_n 1, 1) := by decide +kernel
theorem dX9_pick_17 : decode cX9_pick 17 = .ok (.iload_n 2, 1) := by decide +kernel
theorem dX9_pick_18 : decode cX9_pick 18 = .ok (.invokevirtual 188, 3) := by decide +kernel
theorem dX9_pick_21 : decode cX9_pick 21 = .ok (.invokevirtual 182, 3) := by decide +kernel
theorem dX9_pick_24 : decode cX9_pick 24 = .ok (.ireturn, 1) := by decide +kernel
theorem dX0_goDown_0 : decode cX0_goDown 0 = .ok (.aload_n 0, 1) := by decide +kernel
theorem dX0_goDown_1 : decode cX0_goDown 1 = .ok (.getfield 21, 3) := by decide +kernel
theorem dX0_goDown_4 : decode cX0_goDown 4 = .ok (.getfield 53, 3) := by decide +kernel
theorem dX0_goDown_7 : decode cX0_goDown 7 = .ok (.iconst (-1), 1) := by decide +kernel
theorem dX0_goDown_8 : decode cX0_goDown 8 = .ok (.if_icmp .eq 13, 3) := by decide +kernel
theorem dX0_goDown_11 : decode cX0_goDown 11 = .ok (.aload_n 0, 1) := by decide +kernel
theorem dX0_goDown_12 : decode cX0_goDown 12 = .ok (.getfield 21, 3) := by decide +kernel
theorem dX0_goDown_15 : decode cX0_goDown 15 = .ok (.getfield 36, 3) := by decide +kernel
theorem dX0_goDown_18 : decode cX0_goDown 18 = .ok (.ifCond .ne 6, 3) := by decide +kernel
theorem dX0_goDown_21 : decode cX0_goDown 21 = .ok (.bipush (-2), 2) := by decide +kernel
theorem dX0_goDown_23 : decode cX0_goDown 23 = .ok (.ireturn, 1) := by decide +kernel
theorem dX0_goDown_24 : decode cX0_goDown 24 = .ok (.aload_n 0, 1) := by decide +kernel
theorem dX0_goDown_25 : decode cX0_goDown 25 = .ok (.getfield 21, 3) := by decide +kernel
theorem dX0_goDown_28 : decode cX0_goDown 28 = .ok (.getfield 36, 3) := by decide +kernel
theorem dX0_goDown_31 : decode cX0_goDown 31 = .ok (.invokestatic 134, 3) := by decide +kernel
theorem dX0_goDown_34 : decode cX0_goDown 34 = .ok (.istore_n 1, 1) := by decide +kernel
theorem dX0_goDown_35 : decode cX0_goDown 35 = .ok (.aload_n 0, 1) := by decide +kernel
theorem dX0_goDown_36 : decode cX0_goDown 36 = .ok (.getfield 21, 3) := by decide +kernel
theorem dX0_goDown_39 : decode cX0_goDown 39 = .ok (.invokevirtual 114, 3) := by decide +kernel
theorem dX0_goDown_42 : decode cX0_goDown 42 = .ok (.aload_n 0, 1) := by decide +kernel
theorem dX0_goDown_43 : decode cX0_goDown 43 = .ok (.getfield 21, 3) := by decide +kernel
theorem dX0_goDown_46 : decode cX0_goDown 46 = .ok (.aload_n 0, 1) := by decide +kernel
theorem dX0_goDown_47 : decode cX0_goDown 47 = .ok (.getfield 12, 3) := by decide +kernel
theorem dX0_goDown_50 : decode cX0_goDown 50 = .ok (.aload_n 0, 1) := by decide +kernel
theorem dX0_goDown_51 : decode cX0_goDown 51 = .ok (.getfield 21, 3) := by decide +kernel
theorem dX0_goDown_54 : decode cX0_goDown 54 = .ok (.getfield 53, 3) := by decide +kernel
theorem dX0_goDown_57 : decode cX0_goDown 57 = .ok (.invokevirtual 111, 3) := by decide +kernel
theorem dX0_goDown_60 : decode cX0_goDown 60 = .ok (.invokevirtual 117, 3) := by decide +kernel
theorem dX0_goDown_63 : decode cX0_goDown 63 = .ok (.iload_n 1, 1) := by decide +kernel
theorem dX0_goDown_64 : decode cX0_goDown 64 = .ok (.ireturn, 1) := by decide +kernel
theorem dX9_down_0 : decode cX9_down 0 = .ok (.aload_n 0, 1) := by decide +kernel
theorem dX9_down_1 : decode cX9_down 1 = .ok (.getfield 43, 3) := by decide +kernel
theorem dX9_down_4 : decode cX9_down 4 = .ok (.aload_n 0, 1) := by decide +kernel
theorem dX9_down_5 : decode cX9_down 5 = .ok (.getfield 39, 3) := by decide +kernel
theorem dX9_down_8 : decode cX9_down 8 = .ok (.invokevirtual 175, 3) := by decide +kernel
theorem dX9_down_11 : decode cX9_down 11 = .ok (.aload_n 0, 1) := by decide +kernel
theorem dX9_down_12 : decode cX9_down 12 = .ok (.aload_n 0, 1) := by decide +kernel
theorem dX9_down_13 : decode cX9_down 13 = .ok (.getfield 27, 3) := by decide +kernel
theorem dX9_down_16 : decode cX9_down 16 = .ok (.invokevirtual 191, 3) := by decide +kernel
theorem dX9_down_19 : decode cX9_down 19 = .ok (.invokevirtual 182, 3) := by decide +kernel
theorem dX9_down_22 : decode cX9_down 22 = .ok (.ireturn, 1) := by decide +kernel
theorem dX3_within_0 : decode cX3_within 0 = .ok (.iconst 0, 1) := by decide +kernel
theorem dX3_within_1 : decode cX3_within 1 = .ok (.istore_n 3, 1) := by decide +kernel
theorem dX3_within_2 : decode cX3_within 2 = .ok (.iconst 0, 1) := by decide +kernel
theorem dX3_within_3 : decode cX3_within 3 = .ok (.istore 4, 2) := by decide +kernel
theorem dX3_within_5 : decode cX3_within 5 = .ok (.iload 4, 2) := by decide +kernel
theorem dX3_within_7 : decode cX3_within 7 = .ok (.aload_n 0, 1) := by decide +kernel
theorem dX3_within_8 : decode cX3_within 8 = .ok (.getfield 33, 3) := by decide +kernel
theorem dX3_within_11 : decode cX3_within 11 = .ok (.if_icmp .ge 27, 3) := by decide +kernel
theorem dX3_within_14 : decode cX3_within 14 = .ok (.aload_n 0, 1) := by decide +kernel
theorem dX3_within_15 : decode cX3_within 15 = .ok (.iload 4, 2) := by decide +kernel
theorem dX3_within_17 : decode cX3_within 17 = .ok (.iload_n 1, 1) := by decide +kernel
theorem dX3_within_18 : decode cX3_within 18 = .ok (.iload_n 2, 1) := by decide +kernel
theorem dX3_within_19 : decode cX3_within 19 = .ok (.invokevirtual 101, 3) := by decide +kernel
theorem dX3_within_22 : decode cX3_within 22 = .ok (.ifCond .eq 10, 3) := by decide +kernel
theorem dX3_within_25 : decode cX3_within 25 = .ok (.iload_n 3, 1) := by decide +kernel
theorem dX3_within_26 : decode cX3_within 26 = .ok (.iconst 1, 1) := by decide +kernel
theorem dX3_within_27 : decode cX3_within 27 = .ok (.iload 4, 2) := by decide +kernel
theorem dX3_within_29 : decode cX3_within 29 = .ok (.ishl, 1) := by decide +kernel
theorem dX3_within_30 : decode cX3_within 30 = .ok (.ior, 1) := by decide +kernel
theorem dX3_within_31 : decode cX3_within 31 = .ok (.istore_n 3, 1) := by decide +kernel
theorem dX3_within_32 : decode cX3_within 32 = .ok (.iinc 4 1, 3) := by decide +kernel
theorem dX3_within_35 : decode cX3_within 35 = .ok (.goto (-30), 3) := by decide +kernel
theorem dX3_within_38 : decode cX3_within 38 = .ok (.iload_n 3, 1) := by decide +kernel
theorem dX3_within_39 : decode cX3_within 39 = .ok (.ireturn, 1) := by decide +kernel
theorem dX3_ripeBy_0 : decode cX3_ripeBy 0 = .ok (.iconst 0, 1) := by decide +kernel
theorem dX3_ripeBy_1 : decode cX3_ripeBy 1 = .ok (.istore_n 2, 1) := by decide +kernel
theorem dX3_ripeBy_2 : decode cX3_ripeBy 2 = .ok (.iconst 0, 1) := by decide +kernel
theorem dX3_ripeBy_3 : decode cX3_ripeBy 3 = .ok (.istore_n 3, 1) := by decide +kernel
theorem dX3_ripeBy_4 : decode cX3_ripeBy 4 = .ok (.iload_n 3, 1) := by decide +kernel
theorem dX3_ripeBy_5 : decode cX3_ripeBy 5 = .ok (.aload_n 0, 1) := by decide +kernel
theorem dX3_ripeBy_6 : decode cX3_ripeBy 6 = .ok (.getfield 33, 3) := by decide +kernel
theorem dX3_ripeBy_9 : decode cX3_ripeBy 9 = .ok (.if_icmp .ge 25, 3) := by decide +kernel
theorem dX3_ripeBy_12 : decode cX3_ripeBy 12 = .ok (.aload_n 0, 1) := by decide +kernel
theorem dX3_ripeBy_13 : decode cX3_ripeBy 13 = .ok (.getfield 21, 3) := by decide +kernel
theorem dX3_ripeBy_16 : decode cX3_ripeBy 16 = .ok (.iload_n 3, 1) := by decide +kernel
theorem dX3_ripeBy_17 : decode cX3_ripeBy 17 = .ok (.iaload, 1) := by decide +kernel
theorem dX3_ripeBy_18 : decode cX3_ripeBy 18 = .ok (.iload_n 1, 1) := by decide +kernel
theorem dX3_ripeBy_19 : decode cX3_ripeBy 19 = .ok (.if_icmp .gt 9, 3) := by decide +kernel
theorem dX3_ripeBy_22 : decode cX3_ripeBy 22 = .ok (.iload_n 2, 1) := by decide +kernel
theorem dX3_ripeBy_23 : decode cX3_ripeBy 23 = .ok (.iconst 1, 1) := by decide +kernel
theorem dX3_ripeBy_24 : decode cX3_ripeBy 24 = .ok (.iload_n 3, 1) := by decide +kernel
theorem dX3_ripeBy_25 : decode cX3_ripeBy 25 = .ok (.ishl, 1) := by decide +kernel
theorem dX3_ripeBy_26 : decode cX3_ripeBy 26 = .ok (.ior, 1) := by decide +kernel
theorem dX3_ripeBy_27 : decode cX3_ripeBy 27 = .ok (.istore_n 2, 1) := by decide +kernel
theorem dX3_ripeBy_28 : decode cX3_ripeBy 28 = .ok (.iinc 3 1, 3) := by decide +kernel
theorem dX3_ripeBy_31 : decode cX3_ripeBy 31 = .ok (.goto (-27), 3) := by decide +kernel
theorem dX3_ripeBy_34 : decode cX3_ripeBy 34 = .ok (.iload_n 2, 1) := by decide +kernel
theorem dX3_ripeBy_35 : decode cX3_ripeBy 35 = .ok (.ireturn, 1) := by decide +kernel
theorem dX0_readyHere_0 : decode cX0_readyHere 0 = .ok (.aload_n 0, 1) := by decide +kernel
theorem dX0_readyHere_1 : decode cX0_readyHere 1 = .ok (.getfield 21, 3) := by decide +kernel
theorem dX0_readyHere_4 : decode cX0_readyHere 4 = .ok (.getfield 53, 3) := by decide +kernel
theorem dX0_readyHere_7 : decode cX0_readyHere 7 = .ok (.iconst (-1), 1) := by decide +kernel
theorem dX0_readyHere_8 : decode cX0_readyHere 8 = .ok (.if_icmp .ne 5, 3) := by decide +kernel
theorem dX0_readyHere_11 : decode cX0_readyHere 11 = .ok (.iconst 0, 1) := by decide +kernel
theorem dX0_readyHere_12 : decode cX0_readyHere 12 = .ok (.ireturn, 1) := by decide +kernel
theorem dX0_readyHere_13 : decode cX0_readyHere 13 = .ok (.aload_n 0, 1) := by decide +kernel
theorem dX0_readyHere_14 : decode cX0_readyHere 14 = .ok (.getfield 12, 3) := by decide +kernel
theorem dX0_readyHere_17 : decode cX0_readyHere 17 = .ok (.aload_n 0, 1) := by decide +kernel
theorem dX0_readyHere_18 : decode cX0_readyHere 18 = .ok (.getfield 21, 3) := by decide +kernel
theorem dX0_readyHere_21 : decode cX0_readyHere 21 = .ok (.getfield 53, 3) := by decide +kernel
theorem dX0_readyHere_24 : decode cX0_readyHere 24 = .ok (.aload_n 0, 1) := by decide +kernel
theorem dX0_readyHere_25 : decode cX0_readyHere 25 = .ok (.getfield 12, 3) := by decide +kernel
theorem dX0_readyHere_28 : decode cX0_readyHere 28 = .ok (.aload_n 0, 1) := by decide +kernel
theorem dX0_readyHere_29 : decode cX0_readyHere 29 = .ok (.getfield 21, 3) := by decide +kernel
theorem dX0_readyHere_32 : decode cX0_readyHere 32 = .ok (.getfield 56, 3) := by decide +kernel
theorem dX0_readyHere_35 : decode cX0_readyHere 35 = .ok (.iconst 0, 1) := by decide +kernel
theorem dX0_readyHere_36 : decode cX0_readyHere 36 = .ok (.invokevirtual 59, 3) := by decide +kernel
theorem dX0_readyHere_39 : decode cX0_readyHere 39 = .ok (.invokevirtual 62, 3) := by decide +kernel
theorem dX0_readyHere_42 : decode cX0_readyHere 42 = .ok (.istore_n 1, 1) := by decide +kernel
theorem dX0_readyHere_43 : decode cX0_readyHere 43 = .ok (.aload_n 0, 1) := by decide +kernel
theorem dX0_readyHere_44 : decode cX0_readyHere 44 = .ok (.invokevirtual 65, 3) := by decide +kernel
theorem dX0_readyHere_47 : decode cX0_readyHere 47 = .ok (.aload_n 0, 1) := by decide +kernel
theorem dX0_readyHere_48 : decode cX0_readyHere 48 = .ok (.getfield 12, 3) := by decide +kernel
theorem dX0_readyHere_51 : decode cX0_readyHere 51 = .ok (.aload_n 0, 1) := by decide +kernel
theorem dX0_readyHere_52 : decode cX0_readyHere 52 = .ok (.getfield 21, 3) := by decide +kernel
theorem dX0_readyHere_55 : decode cX0_readyHere 55 = .ok (.getfield 68, 3) := by decide +kernel
theorem dX0_readyHere_58 : decode cX0_readyHere 58 = .ok (.invokevirtual 71, 3) := by decide +kernel
theorem dX0_readyHere_61 : decode cX0_readyHere 61 = .ok (.iand, 1) := by decide +kernel
theorem dX0_readyHere_62 : decode cX0_readyHere 62 = .ok (.iload_n 1, 1) := by decide +kernel
theorem dX0_readyHere_63 : decode cX0_readyHere 63 = .ok (.iand, 1) := by decide +kernel
theorem dX0_readyHere_64 : decode cX0_readyHere 64 = .ok (.ireturn, 1) := by decide +kernel
theorem dX0_shakeTree_0 : decode cX0_shakeTree 0 = .ok (.aload_n 0, 1) := by decide +kernel
theorem dX0_shakeTree_1 : decode cX0_shakeTree 1 = .ok (.getfield 21, 3) := by decide +kernel
theorem dX0_shakeTree_4 : decode cX0_shakeTree 4 = .ok (.getfield 53, 3) := by decide +kernel
theorem dX0_shakeTree_7 : decode cX0_shakeTree 7 = .ok (.iconst (-1), 1) := by decide +kernel
theorem dX0_shakeTree_8 : decode cX0_shakeTree 8 = .ok (.if_icmp .ne 6, 3) := by decide +kernel
theorem dX0_shakeTree_11 : decode cX0_shakeTree 11 = .ok (.bipush (-2), 2) := by decide +kernel
theorem dX0_shakeTree_13 : decode cX0_shakeTree 13 = .ok (.ireturn, 1) := by decide +kernel
theorem dX0_shakeTree_14 : decode cX0_shakeTree 14 = .ok (.aload_n 0, 1) := by decide +kernel
theorem dX0_shakeTree_15 : decode cX0_shakeTree 15 = .ok (.invokevirtual 65, 3) := by decide +kernel
theorem dX0_shakeTree_18 : decode cX0_shakeTree 18 = .ok (.istore_n 1, 1) := by decide +kernel
theorem dX0_shakeTree_19 : decode cX0_shakeTree 19 = .ok (.aload_n 0, 1) := by decide +kernel
theorem dX0_shakeTree_20 : decode cX0_shakeTree 20 = .ok (.invokevirtual 149, 3) := by decide +kernel
theorem dX0_shakeTree_23 : decode cX0_shakeTree 23 = .ok (.istore_n 2, 1) := by decide +kernel
theorem dX0_shakeTree_24 : decode cX0_shakeTree 24 = .ok (.iload_n 2, 1) := by decide +kernel
theorem dX0_shakeTree_25 : decode cX0_shakeTree 25 = .ok (.istore_n 3, 1) := by decide +kernel
theorem dX0_shakeTree_26 : decode cX0_shakeTree 26 = .ok (.iconst 0, 1) := by decide +kernel
theorem dX0_shakeTree_27 : decode cX0_shakeTree 27 = .ok (.istore 4, 2) := by decide +kernel
theorem dX0_shakeTree_29 : decode cX0_shakeTree 29 = .ok (.iload 4, 2) := by decide +kernel
theorem dX0_shakeTree_31 : decode cX0_shakeTree 31 = .ok (.aload_n 0, 1) := by decide +kernel
theorem dX0_shakeTree_32 : decode cX0_shakeTree 32 = .ok (.getfield 12, 3) := by decide +kernel
theorem dX0_shakeTree_35 : decode cX0_shakeTree 35 = .ok (.getfield 152, 3) := by decide +kernel
theorem dX0_shakeTree_38 : decode cX0_shakeTree 38 = .ok (.if_icmp .ge 31, 3) := by decide +kernel
theorem dX0_shakeTree_41 : decode cX0_shakeTree 41 = .ok (.iload_n 2, 1) := by decide +kernel
theorem dX0_shakeTree_42 : decode cX0_shakeTree 42 = .ok (.iload 4, 2) := by decide +kernel
theorem dX0_shakeTree_44 : decode cX0_shakeTree 44 = .ok (.ishr, 1) := by decide +kernel
theorem dX0_shakeTree_45 : decode cX0_shakeTree 45 = .ok (.iconst 1, 1) := by decide +kernel
theorem dX0_shakeTree_46 : decode cX0_shakeTree 46 = .ok (.iand, 1) := by decide +kernel
theorem dX0_shakeTree_47 : decode cX0_shakeTree 47 = .ok (.ifCond .eq 16, 3) := by decide +kernel
theorem dX0_shakeTree_50 : decode cX0_shakeTree 50 = .ok (.iload_n 3, 1) := by decide +kernel
theorem dX0_shakeTree_51 : decode cX0_shakeTree 51 = .ok (.aload_n 0, 1) := by decide +kernel
theorem dX0_shakeTree_52 : decode cX0_shakeTree 52 = .ok (.getfield 12, 3) := by decide +kernel
theorem dX0_shakeTree_55 : decode cX0_shakeTree 55 = .ok (.iload 4, 2) := by decide +kernel
theorem dX0_shakeTree_57 : decode cX0_shakeTree 57 = .ok (.iload_n 1, 1) := by decide +kernel
theorem dX0_shakeTree_58 : decode cX0_shakeTree 58 = .ok (.invokevirtual 146, 3) := by decide +kernel
theorem dX0_shakeTree_61 : decode cX0_shakeTree 61 = .ok (.ior, 1) := by decide +kernel
theorem dX0_shakeTree_62 : decode cX0_shakeTree 62 = .ok (.istore_n 3, 1) := by decide +kernel
theorem dX0_shakeTree_63 : decode cX0_shakeTree 63 = .ok (.iinc 4 1, 3) := by decide +kernel
theorem dX0_shakeTree_66 : decode cX0_shakeTree 66 = .ok (.goto (-37), 3) := by decide +kernel
theorem dX0_shakeTree_69 : decode cX0_shakeTree 69 = .ok (.aload_n 0, 1) := by decide +kernel
theorem dX0_shakeTree_70 : decode cX0_shakeTree 70 = .ok (.getfield 21, 3) := by decide +kernel
theorem dX0_shakeTree_73 : decode cX0_shakeTree 73 = .ok (.dup, 1) := by decide +kernel
theorem dX0_shakeTree_74 : decode cX0_shakeTree 74 = .ok (.getfield 43, 3) := by decide +kernel
theorem dX0_shakeTree_77 : decode cX0_shakeTree 77 = .ok (.iload_n 2, 1) := by decide +kernel
theorem dX0_shakeTree_78 : decode cX0_shakeTree 78 = .ok (.ior, 1) := by decide +kernel
theorem dX0_shakeTree_79 : decode cX0_shakeTree 79 = .ok (.putfield 43, 3) := by decide +kernel
theorem dX0_shakeTree_82 : decode cX0_shakeTree 82 = .ok (.aload_n 0, 1) := by decide +kernel
theorem dX0_shakeTree_83 : decode cX0_shakeTree 83 = .ok (.getfield 21, 3) := by decide +kernel
theorem dX0_shakeTree_86 : decode cX0_shakeTree 86 = .ok (.dup, 1) := by decide +kernel
theorem dX0_shakeTree_87 : decode cX0_shakeTree 87 = .ok (.getfield 46, 3) := by decide +kernel
theorem dX0_shakeTree_90 : decode cX0_shakeTree 90 = .ok (.iload_n 3, 1) := by decide +kernel
theorem dX0_shakeTree_91 : decode cX0_shakeTree 91 = .ok (.ior, 1) := by decide +kernel
theorem dX0_shakeTree_92 : decode cX0_shakeTree 92 = .ok (.putfield 46, 3) := by decide +kernel
theorem dX0_shakeTree_95 : decode cX0_shakeTree 95 = .ok (.aload_n 0, 1) := by decide +kernel
theorem dX0_shakeTree_96 : decode cX0_shakeTree 96 = .ok (.getfield 21, 3) := by decide +kernel
theorem dX0_shakeTree_99 : decode cX0_shakeTree 99 = .ok (.iconst 5, 1) := by decide +kernel
theorem dX0_shakeTree_100 : decode cX0_shakeTree 100 = .ok (.invokevirtual 117, 3) := by decide +kernel
theorem dX0_shakeTree_103 : decode cX0_shakeTree 103 = .ok (.iload_n 2, 1) := by decide +kernel
theorem dX0_shakeTree_104 : decode cX0_shakeTree 104 = .ok (.invokestatic 134, 3) := by decide +kernel
theorem dX0_shakeTree_107 : decode cX0_shakeTree 107 = .ok (.ireturn, 1) := by decide +kernel
theorem dX9_shake_0 : decode cX9_shake 0 = .ok (.aload_n 0, 1) := by decide +kernel
theorem dX9_shake_1 : decode cX9_shake 1 = .ok (.getfield 43, 3) := by decide +kernel
theorem dX9_shake_4 : decode cX9_shake 4 = .ok (.aload_n 0, 1) := by decide +kernel
theorem dX9_shake_5 : decode cX9_shake 5 = .ok (.getfield 39, 3) := by decide +kernel
theorem dX9_shake_8 : decode cX9_shake 8 = .ok (.invokevirtual 175, 3) := by decide +kernel
theorem dX9_shake_11 : decode cX9_shake 11 = .ok (.aload_n 0, 1) := by decide +kernel
theorem dX9_shake_12 : decode cX9_shake 12 = .ok (.aload_n 0, 1) := by decide +kernel
theorem dX9_shake_13 : decode cX9_shake 13 = .ok (.getfield 27, 3) := by decide +kernel
theorem dX9_shake_16 : decode cX9_shake 16 = .ok (.invokevirtual 194, 3) := by decide +kernel
theorem dX9_shake_19 : decode cX9_shake 19 = .ok (.invokevirtual 182, 3) := by decide +kernel
theorem dX9_shake_22 : decode cX9_shake 22 = .ok (.ireturn, 1) := by decide +kernel
theorem dX0_sleepOver_0 : decode cX0_sleepOver 0 = .ok (.aload_n 0, 1) := by decide +kernel
theorem dX0_sleepOver_1 : decode cX0_sleepOver 1 = .ok (.getfield 21, 3) := by decide +kernel
theorem dX0_sleepOver_4 : decode cX0_sleepOver 4 = .ok (.getfield 68, 3) := by decide +kernel
theorem dX0_sleepOver_7 : decode cX0_sleepOver 7 = .ok (.bipush 9, 2) := by decide +kernel
theorem dX0_sleepOver_9 : decode cX0_sleepOver 9 = .ok (.if_icmp .lt 5, 3) := by decide +kernel
theorem dX0_sleepOver_12 : decode cX0_sleepOver 12 = .ok (.iconst (-1), 1) := by decide +kernel
theorem dX0_sleepOver_13 : decode cX0_sleepOver 13 = .ok (.ireturn, 1) := by decide +kernel
theorem dX0_sleepOver_14 : decode cX0_sleepOver 14 = .ok (.aload_n 0, 1) := by decide +kernel
theorem dX0_sleepOver_15 : decode cX0_sleepOver 15 = .ok (.getfield 21, 3) := by decide +kernel
theorem dX0_sleepOver_18 : decode cX0_sleepOver 18 = .ok (.dup, 1) := by decide +kernel
theorem dX0_sleepOver_19 : decode cX0_sleepOver 19 = .ok (.getfield 68, 3) := by decide +kernel
theorem dX0_sleepOver_22 : decode cX0_sleepOver 22 = .ok (.iconst 1, 1) := by decide +kernel
theorem dX0_sleepOver_23 : decode cX0_sleepOver 23 = .ok (.iadd, 1) := by decide +kernel
theorem dX0_sleepOver_24 : decode cX0_sleepOver 24 = .ok (.putfield 68, 3) := by decide +kernel
theorem dX0_sleepOver_27 : decode cX0_sleepOver 27 = .ok (.aload_n 0, 1) := by decide +kernel
theorem dX0_sleepOver_28 : decode cX0_sleepOver 28 = .ok (.getfield 21, 3) := by decide +kernel
theorem dX0_sleepOver_31 : decode cX0_sleepOver 31 = .ok (.iconst (-1), 1) := by decide +kernel
theorem dX0_sleepOver_32 : decode cX0_sleepOver 32 = .ok (.putfield 53, 3) := by decide +kernel
theorem dX0_sleepOver_35 : decode cX0_sleepOver 35 = .ok (.aload_n 0, 1) := by decide +kernel
theorem dX0_sleepOver_36 : decode cX0_sleepOver 36 = .ok (.getfield 21, 3) := by decide +kernel
theorem dX0_sleepOver_39 : decode cX0_sleepOver 39 = .ok (.invokevirtual 114, 3) := by decide +kernel
theorem dX0_sleepOver_42 : decode cX0_sleepOver 42 = .ok (.aload_n 0, 1) := by decide +kernel
theorem dX0_sleepOver_43 : decode cX0_sleepOver 43 = .ok (.getfield 21, 3) := by decide +kernel
theorem dX0_sleepOver_46 : decode cX0_sleepOver 46 = .ok (.iconst 0, 1) := by decide +kernel
theorem dX0_sleepOver_47 : decode cX0_sleepOver 47 = .ok (.putfield 155, 3) := by decide +kernel
theorem dX0_sleepOver_50 : decode cX0_sleepOver 50 = .ok (.aload_n 0, 1) := by decide +kernel
theorem dX0_sleepOver_51 : decode cX0_sleepOver 51 = .ok (.getfield 21, 3) := by decide +kernel
theorem dX0_sleepOver_54 : decode cX0_sleepOver 54 = .ok (.getfield 68, 3) := by decide +kernel
theorem dX0_sleepOver_57 : decode cX0_sleepOver 57 = .ok (.ireturn, 1) := by decide +kernel
theorem dX9_sleep_0 : decode cX9_sleep 0 = .ok (.aload_n 0, 1) := by decide +kernel
theorem dX9_sleep_1 : decode cX9_sleep 1 = .ok (.getfield 43, 3) := by decide +kernel
theorem dX9_sleep_4 : decode cX9_sleep 4 = .ok (.aload_n 0, 1) := by decide +kernel
theorem dX9_sleep_5 : decode cX9_sleep 5 = .ok (.getfield 39, 3) := by decide +kernel
theorem dX9_sleep_8 : decode cX9_sleep 8 = .ok (.invokevirtual 175, 3) := by decide +kernel
theorem dX9_sleep_11 : decode cX9_sleep 11 = .ok (.aload_n 0, 1) := by decide +kernel
theorem dX9_sleep_12 : decode cX9_sleep 12 = .ok (.aload_n 0, 1) := by decide +kernel
theorem dX9_sleep_13 : decode cX9_sleep 13 = .ok (.getfield 27, 3) := by decide +kernel
theorem dX9_sleep_16 : decode cX9_sleep 16 = .ok (.invokevirtual 197, 3) := by decide +kernel
theorem dX9_sleep_19 : decode cX9_sleep 19 = .ok (.invokevirtual 182, 3) := by decide +kernel
theorem dX9_sleep_22 : decode cX9_sleep 22 = .ok (.ireturn, 1) := by decide +kernel
theorem dX9_doAct_0 : decode cX9_doAct 0 = .ok (.iload_n 1, 1) := by decide +kernel
theorem dX9_doAct_1 : decode cX9_doAct 1 = .ok (.tableswitch 142 97 112 #[124, 142, 142, 108, 142, 142, 142, 98, 142, 142, 116, 142, 79, 142, 133, 88], 79) := by decide +kernel
theorem dX9_doAct_80 : decode cX9_doAct 80 = .ok (.aload_n 0, 1) := by decide +kernel
theorem dX9_doAct_81 : decode cX9_doAct 81 = .ok (.getfield 27, 3) := by decide +kernel
theorem dX9_doAct_84 : decode cX9_doAct 84 = .ok (.iload_n 2, 1) := by decide +kernel
theorem dX9_doAct_85 : decode cX9_doAct 85 = .ok (.invokevirtual 179, 3) := by decide +kernel
theorem dX9_doAct_88 : decode cX9_doAct 88 = .ok (.ireturn, 1) := by decide +kernel
theorem dX9_doAct_89 : decode cX9_doAct 89 = .ok (.aload_n 0, 1) := by decide +kernel
theorem dX9_doAct_90 : decode cX9_doAct 90 = .ok (.getfield 27, 3) := by decide +kernel
theorem dX9_doAct_93 : decode cX9_doAct 93 = .ok (.iload_n 2, 1) := by decide +kernel
theorem dX9_doAct_94 : decode cX9_doAct 94 = .ok (.iconst 0, 1) := by decide +kernel
theorem dX9_doAct_95 : decode cX9_doAct 95 = .ok (.invokevirtual 188, 3) := by decide +kernel
theorem dX9_doAct_98 : decode cX9_doAct 98 = .ok (.ireturn, 1) := by decide +kernel
theorem dX9_doAct_99 : decode cX9_doAct 99 = .ok (.aload_n 0, 1) := by decide +kernel
theorem dX9_doAct_100 : decode cX9_doAct 100 = .ok (.getfield 27, 3) := by decide +kernel
theorem dX9_doAct_103 : decode cX9_doAct 103 = .ok (.iload_n 2, 1) := by decide +kernel
theorem dX9_doAct_104 : decode cX9_doAct 104 = .ok (.iconst 1, 1) := by decide +kernel
theorem dX9_doAct_105 : decode cX9_doAct 105 = .ok (.invokevirtual 188, 3) := by decide +kernel
theorem dX9_doAct_108 : decode cX9_doAct 108 = .ok (.ireturn, 1) := by decide +kernel
theorem dX9_doAct_109 : decode cX9_doAct 109 = .ok (.aload_n 0, 1) := by decide +kernel
theorem dX9_doAct_110 : decode cX9_doAct 110 = .ok (.getfield 27, 3) := by decide +kernel
theorem dX9_doAct_113 : decode cX9_doAct 113 = .ok (.invokevirtual 191, 3) := by decide +kernel
theorem dX9_doAct_116 : decode cX9_doAct 116 = .ok (.ireturn, 1) := by decide +kernel
theorem dX9_doAct_117 : decode cX9_doAct 117 = .ok (.aload_n 0, 1) := by decide +kernel
theorem dX9_doAct_118 : decode cX9_doAct 118 = .ok (.getfield 27, 3) := by decide +kernel
theorem dX9_doAct_121 : decode cX9_doAct 121 = .ok (.invokevirtual 194, 3) := by decide +kernel
theorem dX9_doAct_124 : decode cX9_doAct 124 = .ok (.ireturn, 1) := by decide +kernel
theorem dX9_doAct_125 : decode cX9_doAct 125 = .ok (.aload_n 0, 1) := by decide +kernel
theorem dX9_doAct_126 : decode cX9_doAct 126 = .ok (.getfield 27, 3) := by decide +kernel
theorem dX9_doAct_129 : decode cX9_doAct 129 = .ok (.iconst 1, 1) := by decide +kernel
theorem dX9_doAct_130 : decode cX9_doAct 130 = .ok (.invokevirtual 185, 3) := by decide +kernel
theorem dX9_doAct_133 : decode cX9_doAct 133 = .ok (.ireturn, 1) := by decide +kernel
theorem dX9_doAct_134 : decode cX9_doAct 134 = .ok (.aload_n 0, 1) := by decide +kernel
theorem dX9_doAct_135 : decode cX9_doAct 135 = .ok (.getfield 27, 3) := by decide +kernel
theorem dX9_doAct_138 : decode cX9_doAct 138 = .ok (.iconst 0, 1) := by decide +kernel
theorem dX9_doAct_139 : decode cX9_doAct 139 = .ok (.invokevirtual 185, 3) := by decide +kernel
theorem dX9_doAct_142 : decode cX9_doAct 142 = .ok (.ireturn, 1) := by decide +kernel
theorem dX9_doAct_143 : decode cX9_doAct 143 = .ok (.aload_n 0, 1) := by decide +kernel
theorem dX9_doAct_144 : decode cX9_doAct 144 = .ok (.getfield 27, 3) := by decide +kernel
theorem dX9_doAct_147 : decode cX9_doAct 147 = .ok (.invokevirtual 197, 3) := by decide +kernel
theorem dX9_doAct_150 : decode cX9_doAct 150 = .ok (.ireturn, 1) := by decide +kernel
theorem dX6_clear_0 : decode cX6_clear 0 = .ok (.aload_n 0, 1) := by decide +kernel
theorem dX6_clear_1 : decode cX6_clear 1 = .ok (.iconst 0, 1) := by decide +kernel
theorem dX6_clear_2 : decode cX6_clear 2 = .ok (.putfield 15, 3) := by decide +kernel
theorem dX6_clear_5 : decode cX6_clear 5 = .ok (.return_, 1) := by decide +kernel
theorem dX6_add_0 : decode cX6_add 0 = .ok (.aload_n 0, 1) := by decide +kernel
theorem dX6_add_1 : decode cX6_add 1 = .ok (.getfield 15, 3) := by decide +kernel
theorem dX6_add_4 : decode cX6_add 4 = .ok (.aload_n 0, 1) := by decide +kernel
theorem dX6_add_5 : decode cX6_add 5 = .ok (.getfield 9, 3) := by decide +kernel
theorem dX6_add_8 : decode cX6_add 8 = .ok (.arraylength, 1) := by decide +kernel
theorem dX6_add_9 : decode cX6_add 9 = .ok (.if_icmp .ge 23, 3) := by decide +kernel
theorem dX6_add_12 : decode cX6_add 12 = .ok (.aload_n 0, 1) := by decide +kernel
theorem dX6_add_13 : decode cX6_add 13 = .ok (.getfield 9, 3) := by decide +kernel
theorem dX6_add_16 : decode cX6_add 16 = .ok (.aload_n 0, 1) := by decide +kernel
theorem dX6_add_17 : decode cX6_add 17 = .ok (.getfield 15, 3) := by decide +kernel
theorem dX6_add_20 : decode cX6_add 20 = .ok (.iload_n 1, 1) := by decide +kernel
theorem dX6_add_21 : decode cX6_add 21 = .ok (.iastore, 1) := by decide +kernel
theorem dX6_add_22 : decode cX6_add 22 = .ok (.aload_n 0, 1) := by decide +kernel
theorem dX6_add_23 : decode cX6_add 23 = .ok (.dup, 1) := by decide +kernel
theorem dX6_add_24 : decode cX6_add 24 = .ok (.getfield 15, 3) := by decide +kernel
theorem dX6_add_27 : decode cX6_add 27 = .ok (.iconst 1, 1) := by decide +kernel
theorem dX6_add_28 : decode cX6_add 28 = .ok (.iadd, 1) := by decide +kernel
theorem dX6_add_29 : decode cX6_add 29 = .ok (.putfield 15, 3) := by decide +kernel
theorem dX6_add_32 : decode cX6_add 32 = .ok (.return_, 1) := by decide +kernel
theorem dX9_tell_0 : decode cX9_tell 0 = .ok (.aload_n 0, 1) := by decide +kernel
theorem dX9_tell_1 : decode cX9_tell 1 = .ok (.getfield 50, 3) := by decide +kernel
theorem dX9_tell_4 : decode cX9_tell 4 = .ok (.invokevirtual 304, 3) := by decide +kernel
theorem dX9_tell_7 : decode cX9_tell 7 = .ok (.aload_n 0, 1) := by decide +kernel
theorem dX9_tell_8 : decode cX9_tell 8 = .ok (.getfield 50, 3) := by decide +kernel
theorem dX9_tell_11 : decode cX9_tell 11 = .ok (.iload_n 1, 1) := by decide +kernel
theorem dX9_tell_12 : decode cX9_tell 12 = .ok (.invokevirtual 318, 3) := by decide +kernel
theorem dX9_tell_15 : decode cX9_tell 15 = .ok (.return_, 1) := by decide +kernel
theorem dX9_tell__0 : decode cX9_tell_ 0 = .ok (.aload_n 0, 1) := by decide +kernel
theorem dX9_tell__1 : decode cX9_tell_ 1 = .ok (.iload_n 1, 1) := by decide +kernel
theorem dX9_tell__2 : decode cX9_tell_ 2 = .ok (.invokevirtual 260, 3) := by decide +kernel
theorem dX9_tell__5 : decode cX9_tell_ 5 = .ok (.aload_n 0, 1) := by decide +kernel
theorem dX9_tell__6 : decode cX9_tell_ 6 = .ok (.getfield 50, 3) := by decide +kernel
theorem dX9_tell__9 : decode cX9_tell_ 9 = .ok (.iload_n 2, 1) := by decide +kernel
theorem dX9_tell__10 : decode cX9_tell_ 10 = .ok (.invokevirtual 318, 3) := by decide +kernel
theorem dX9_tell__13 : decode cX9_tell_ 13 = .ok (.return_, 1) := by decide +kernel
theorem dX9_doActs_0 : decode cX9_doActs 0 = .ok (.aload_n 0, 1) := by decide +kernel
theorem dX9_doActs_1 : decode cX9_doActs 1 = .ok (.getfield 43, 3) := by decide +kernel
theorem dX9_doActs_4 : decode cX9_doActs 4 = .ok (.aload_n 0, 1) := by decide +kernel
theorem dX9_doActs_5 : decode cX9_doActs 5 = .ok (.getfield 39, 3) := by decide +kernel
theorem dX9_doActs_8 : decode cX9_doActs 8 = .ok (.invokevirtual 175, 3) := by decide +kernel
theorem dX9_doActs_11 : decode cX9_doActs 11 = .ok (.iconst 0, 1) := by decide +kernel
theorem dX9_doActs_12 : decode cX9_doActs 12 = .ok (.istore_n 2, 1) := by decide +kernel
theorem dX9_doActs_13 : decode cX9_doActs 13 = .ok (.iconst 0, 1) := by decide +kernel
theorem dX9_doActs_14 : decode cX9_doActs 14 = .ok (.istore_n 3, 1) := by decide +kernel
theorem dX9_doActs_15 : decode cX9_doActs 15 = .ok (.iconst 0, 1) := by decide +kernel
theorem dX9_doActs_16 : decode cX9_doActs 16 = .ok (.istore 4, 2) := by decide +kernel
theorem dX9_doActs_18 : decode cX9_doActs 18 = .ok (.iconst 0, 1) := by decide +kernel
theorem dX9_doActs_19 : decode cX9_doActs 19 = .ok (.istore 5, 2) := by decide +kernel
theorem dX9_doActs_21 : decode cX9_doActs 21 = .ok (.iload 5, 2) := by decide +kernel
theorem dX9_doActs_23 : decode cX9_doActs 23 = .ok (.iload_n 1, 1) := by decide +kernel
theorem dX9_doActs_24 : decode cX9_doActs 24 = .ok (.if_icmp .ge 83, 3) := by decide +kernel
theorem dX9_doActs_27 : decode cX9_doActs 27 = .ok (.iload 5, 2) := by decide +kernel
theorem dX9_doActs_29 : decode cX9_doActs 29 = .ok (.bipush 30, 2) := by decide +kernel
theorem dX9_doActs_31 : decode cX9_doActs 31 = .ok (.if_icmp .ge 76, 3) := by decide +kernel
theorem dX9_doActs_34 : decode cX9_doActs 34 = .ok (.iload 4, 2) := by decide +kernel
theorem dX9_doActs_36 : decode cX9_doActs 36 = .ok (.ifCond .ne 71, 3) := by decide +kernel
theorem dX9_doActs_39 : decode cX9_doActs 39 = .ok (.aload_n 0, 1) := by decide +kernel
theorem dX9_doActs_40 : decode cX9_doActs 40 = .ok (.getfield 61, 3) := by decide +kernel
theorem dX9_doActs_43 : decode cX9_doActs 43 = .ok (.iload 5, 2) := by decide +kernel
theorem dX9_doActs_45 : decode cX9_doActs 45 = .ok (.iaload, 1) := by decide +kernel
theorem dX9_doActs_46 : decode cX9_doActs 46 = .ok (.bipush 100, 2) := by decide +kernel
theorem dX9_doActs_48 : decode cX9_doActs 48 = .ok (.idiv, 1) := by decide +kernel
theorem dX9_doActs_49 : decode cX9_doActs 49 = .ok (.istore 6, 2) := by decide +kernel
theorem dX9_doActs_51 : decode cX9_doActs 51 = .ok (.aload_n 0, 1) := by decide +kernel
theorem dX9_doActs_52 : decode cX9_doActs 52 = .ok (.iload 6, 2) := by decide +kernel
theorem dX9_doActs_54 : decode cX9_doActs 54 = .ok (.aload_n 0, 1) := by decide +kernel
theorem dX9_doActs_55 : decode cX9_doActs 55 = .ok (.getfield 61, 3) := by decide +kernel
theorem dX9_doActs_58 : decode cX9_doActs 58 = .ok (.iload 5, 2) := by decide +kernel
theorem dX9_doActs_60 : decode cX9_doActs 60 = .ok (.iaload, 1) := by decide +kernel
theorem dX9_doActs_61 : decode cX9_doActs 61 = .ok (.bipush 100, 2) := by decide +kernel
theorem dX9_doActs_63 : decode cX9_doActs 63 = .ok (.irem, 1) := by decide +kernel
theorem dX9_doActs_64 : decode cX9_doActs 64 = .ok (.invokevirtual 231, 3) := by decide +kernel
theorem dX9_doActs_67 : decode cX9_doActs 67 = .ok (.ifCond .ge 9, 3) := by decide +kernel
theorem dX9_doActs_70 : decode cX9_doActs 70 = .ok (.iconst 1, 1) := by decide +kernel
theorem dX9_doActs_71 : decode cX9_doActs 71 = .ok (.istore 4, 2) := by decide +kernel
theorem dX9_doActs_73 : decode cX9_doActs 73 = .ok (.goto 28, 3) := by decide +kernel
theorem dX9_doActs_76 : decode cX9_doActs 76 = .ok (.iinc 2 1, 3) := by decide +kernel
theorem dX9_doActs_79 : decode cX9_doActs 79 = .ok (.iload_n 3, 1) := by decide +kernel
theorem dX9_doActs_80 : decode cX9_doActs 80 = .ok (.iload 6, 2) := by decide +kernel
theorem dX9_doActs_82 : decode cX9_doActs 82 = .ok (.bipush 112, 2) := by decide +kernel
theorem dX9_doActs_84 : decode cX9_doActs 84 = .ok (.if_icmp .eq 10, 3) := by decide +kernel
theorem dX9_doActs_87 : decode cX9_doActs 87 = .ok (.iload 6, 2) := by decide +kernel
theorem dX9_doActs_89 : decode cX9_doActs 89 = .ok (.bipush 104, 2) := by decide +kernel
theorem dX9_doActs_91 : decode cX9_doActs 91 = .ok (.if_icmp .ne 7, 3) := by decide +kernel
theorem dX9_doActs_94 : decode cX9_doActs 94 = .ok (.iconst 1, 1) := by decide +kernel
theorem dX9_doActs_95 : decode cX9_doActs 95 = .ok (.goto 4, 3) := by decide +kernel
theorem dX9_doActs_98 : decode cX9_doActs 98 = .ok (.iconst 0, 1) := by decide +kernel
theorem dX9_doActs_99 : decode cX9_doActs 99 = .ok (.iadd, 1) := by decide +kernel
theorem dX9_doActs_100 : decode cX9_doActs 100 = .ok (.istore_n 3, 1) := by decide +kernel
theorem dX9_doActs_101 : decode cX9_doActs 101 = .ok (.iinc 5 1, 3) := by decide +kernel
theorem dX9_doActs_104 : decode cX9_doActs 104 = .ok (.goto (-83), 3) := by decide +kernel
theorem dX9_doActs_107 : decode cX9_doActs 107 = .ok (.iload_n 2, 1) := by decide +kernel
theorem dX9_doActs_108 : decode cX9_doActs 108 = .ok (.ifCond .le 10, 3) := by decide +kernel
theorem dX9_doActs_111 : decode cX9_doActs 111 = .ok (.aload_n 0, 1) := by decide +kernel
theorem dX9_doActs_112 : decode cX9_doActs 112 = .ok (.getfield 43, 3) := by decide +kernel
theorem dX9_doActs_115 : decode cX9_doActs 115 = .ok (.invokevirtual 212, 3) := by decide +kernel
theorem dX9_doActs_118 : decode cX9_doActs 118 = .ok (.aload_n 0, 1) := by decide +kernel
theorem dX9_doActs_119 : decode cX9_doActs 119 = .ok (.iload 4, 2) := by decide +kernel
theorem dX9_doActs_121 : decode cX9_doActs 121 = .ok (.iload_n 3, 1) := by decide +kernel
theorem dX9_doActs_122 : decode cX9_doActs 122 = .ok (.invokevirtual 234, 3) := by decide +kernel
theorem dX9_doActs_125 : decode cX9_doActs 125 = .ok (.iload_n 2, 1) := by decide +kernel
theorem dX9_doActs_126 : decode cX9_doActs 126 = .ok (.ireturn, 1) := by decide +kernel
theorem dX9_readAct_0 : decode cX9_readAct 0 = .ok (.aload_n 0, 1) := by decide +kernel
theorem dX9_readAct_1 : decode cX9_readAct 1 = .ok (.getfield 10, 3) := by decide +kernel
theorem dX9_readAct_4 : decode cX9_readAct 4 = .ok (.invokevirtual 222, 3) := by decide +kernel
theorem dX9_readAct_7 : decode cX9_readAct 7 = .ok (.istore_n 1, 1) := by decide +kernel
theorem dX9_readAct_8 : decode cX9_readAct 8 = .ok (.iconst 0, 1) := by decide +kernel
theorem dX9_readAct_9 : decode cX9_readAct 9 = .ok (.istore_n 2, 1) := by decide +kernel
theorem dX9_readAct_10 : decode cX9_readAct 10 = .ok (.iload_n 1, 1) := by decide +kernel
theorem dX9_readAct_11 : decode cX9_readAct 11 = .ok (.tableswitch 130 97 122 #[127, 130, 130, 127, 130, 130, 130, 122, 130, 130, 127, 130, 117, 130, 127, 122, 130, 130, 130, 130, 130, 130, 130, 130, 130, 127], 117) := by decide +kernel
theorem dX9_readAct_128 : decode cX9_readAct 128 = .ok (.iconst 1, 1) := by decide +kernel
theorem dX9_readAct_129 : decode cX9_readAct 129 = .ok (.istore_n 2, 1) := by decide +kernel
theorem dX9_readAct_130 : decode cX9_readAct 130 = .ok (.goto 13, 3) := by decide +kernel
theorem dX9_readAct_133 : decode cX9_readAct 133 = .ok (.iconst 2, 1) := by decide +kernel
theorem dX9_readAct_134 : decode cX9_readAct 134 = .ok (.istore_n 2, 1) := by decide +kernel
theorem dX9_readAct_135 : decode cX9_readAct 135 = .ok (.goto 8, 3) := by decide +kernel
theorem dX9_readAct_138 : decode cX9_readAct 138 = .ok (.goto 5, 3) := by decide +kernel
theorem dX9_readAct_141 : decode cX9_readAct 141 = .ok (.iconst (-1), 1) := by decide +kernel
theorem dX9_readAct_142 : decode cX9_readAct 142 = .ok (.ireturn, 1) := by decide +kernel
theorem dX9_readAct_143 : decode cX9_readAct 143 = .ok (.aload_n 0, 1) := by decide +kernel
theorem dX9_readAct_144 : decode cX9_readAct 144 = .ok (.getfield 10, 3) := by decide +kernel
theorem dX9_readAct_147 : decode cX9_readAct 147 = .ok (.invokevirtual 225, 3) := by decide +kernel
theorem dX9_readAct_150 : decode cX9_readAct 150 = .ok (.iload_n 2, 1) := by decide +kernel
theorem dX9_readAct_151 : decode cX9_readAct 151 = .ok (.ifCond .ne 8, 3) := by decide +kernel
theorem dX9_readAct_154 : decode cX9_readAct 154 = .ok (.iload_n 1, 1) := by decide +kernel
theorem dX9_readAct_155 : decode cX9_readAct 155 = .ok (.bipush 100, 2) := by decide +kernel
theorem dX9_readAct_157 : decode cX9_readAct 157 = .ok (.imul, 1) := by decide +kernel
theorem dX9_readAct_158 : decode cX9_readAct 158 = .ok (.ireturn, 1) := by decide +kernel
theorem dX9_readAct_159 : decode cX9_readAct 159 = .ok (.aload_n 0, 1) := by decide +kernel
theorem dX9_readAct_160 : decode cX9_readAct 160 = .ok (.getfield 10, 3) := by decide +kernel
theorem dX9_readAct_163 : decode cX9_readAct 163 = .ok (.iload_n 2, 1) := by decide +kernel
theorem dX9_readAct_164 : decode cX9_readAct 164 = .ok (.invokevirtual 228, 3) := by decide +kernel
theorem dX9_readAct_167 : decode cX9_readAct 167 = .ok (.istore_n 3, 1) := by decide +kernel
theorem dX9_readAct_168 : decode cX9_readAct 168 = .ok (.iload_n 3, 1) := by decide +kernel
theorem dX9_readAct_169 : decode cX9_readAct 169 = .ok (.iconst (-1), 1) := by decide +kernel
theorem dX9_readAct_170 : decode cX9_readAct 170 = .ok (.if_icmp .ne 7, 3) := by decide +kernel
theorem dX9_readAct_173 : decode cX9_readAct 173 = .ok (.iconst (-1), 1) := by decide +kernel
theorem dX9_readAct_174 : decode cX9_readAct 174 = .ok (.goto 9, 3) := by decide +kernel
theorem dX9_readAct_177 : decode cX9_readAct 177 = .ok (.iload_n 1, 1) := by decide +kernel
theorem dX9_readAct_178 : decode cX9_readAct 178 = .ok (.bipush 100, 2) := by decide +kernel
theorem dX9_readAct_180 : decode cX9_readAct 180 = .ok (.imul, 1) := by decide +kernel
theorem dX9_readAct_181 : decode cX9_readAct 181 = .ok (.iload_n 3, 1) := by decide +kernel
theorem dX9_readAct_182 : decode cX9_readAct 182 = .ok (.iadd, 1) := by decide +kernel
theorem dX9_readAct_183 : decode cX9_readAct 183 = .ok (.ireturn, 1) := by decide +kernel
theorem dX9_readActs_0 : decode cX9_readActs 0 = .ok (.iconst 0, 1) := by decide +kernel
theorem dX9_readActs_1 : decode cX9_readActs 1 = .ok (.istore_n 1, 1) := by decide +kernel
theorem dX9_readActs_2 : decode cX9_readActs 2 = .ok (.iload_n 1, 1) := by decide +kernel
theorem dX9_readActs_3 : decode cX9_readActs 3 = .ok (.bipush 30, 2) := by decide +kernel
theorem dX9_readActs_5 : decode cX9_readActs 5 = .ok (.if_icmp .ge 44, 3) := by decide +kernel
theorem dX9_readActs_8 : decode cX9_readActs 8 = .ok (.aload_n 0, 1) := by decide +kernel
theorem dX9_readActs_9 : decode cX9_readActs 9 = .ok (.invokevirtual 215, 3) := by decide +kernel
theorem dX9_readActs_12 : decode cX9_readActs 12 = .ok (.istore_n 2, 1) := by decide +kernel
theorem dX9_readActs_13 : decode cX9_readActs 13 = .ok (.iload_n 2, 1) := by decide +kernel
theorem dX9_readActs_14 : decode cX9_readActs 14 = .ok (.iconst (-1), 1) := by decide +kernel
theorem dX9_readActs_15 : decode cX9_readActs 15 = .ok (.if_icmp .ne 5, 3) := by decide +kernel
theorem dX9_readActs_18 : decode cX9_readActs 18 = .ok (.iconst (-1), 1) := by decide +kernel
theorem dX9_readActs_19 : decode cX9_readActs 19 = .ok (.ireturn, 1) := by decide +kernel
theorem dX9_readActs_20 : decode cX9_readActs 20 = .ok (.aload_n 0, 1) := by decide +kernel
theorem dX9_readActs_21 : decode cX9_readActs 21 = .ok (.getfield 61, 3) := by decide +kernel
theorem dX9_readActs_24 : decode cX9_readActs 24 = .ok (.iload_n 1, 1) := by decide +kernel
theorem dX9_readActs_25 : decode cX9_readActs 25 = .ok (.iload_n 2, 1) := by decide +kernel
theorem dX9_readActs_26 : decode cX9_readActs 26 = .ok (.iastore, 1) := by decide +kernel
theorem dX9_readActs_27 : decode cX9_readActs 27 = .ok (.aload_n 0, 1) := by decide +kernel
theorem dX9_readActs_28 : decode cX9_readActs 28 = .ok (.getfield 10, 3) := by decide +kernel
theorem dX9_readActs_31 : decode cX9_readActs 31 = .ok (.bipush 59, 2) := by decide +kernel
theorem dX9_readActs_33 : decode cX9_readActs 33 = .ok (.invokevirtual 218, 3) := by decide +kernel
theorem dX9_readActs_36 : decode cX9_readActs 36 = .ok (.ifCond .ne 7, 3) := by decide +kernel
theorem dX9_readActs_39 : decode cX9_readActs 39 = .ok (.iload_n 1, 1) := by decide +kernel
theorem dX9_readActs_40 : decode cX9_readActs 40 = .ok (.iconst 1, 1) := by decide +kernel
theorem dX9_readActs_41 : decode cX9_readActs 41 = .ok (.iadd, 1) := by decide +kernel
theorem dX9_readActs_42 : decode cX9_readActs 42 = .ok (.ireturn, 1) := by decide +kernel
theorem dX9_readActs_43 : decode cX9_readActs 43 = .ok (.iinc 1 1, 3) := by decide +kernel
theorem dX9_readActs_46 : decode cX9_readActs 46 = .ok (.goto (-44), 3) := by decide +kernel
theorem dX9_readActs_49 : decode cX9_readActs 49 = .ok (.iconst (-1), 1) := by decide +kernel
theorem dX9_readActs_50 : decode cX9_readActs 50 = .ok (.ireturn, 1) := by decide +kernel
theorem dX9_day_0 : decode cX9_day 0 = .ok (.aload_n 0, 1) := by decide +kernel
theorem dX9_day_1 : decode cX9_day 1 = .ok (.getfield 10, 3) := by decide +kernel
