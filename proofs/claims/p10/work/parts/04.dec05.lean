theorem dX9_birds_50 : decode cX9_birds 50 = .ok (.iload_n 1, 1) := by decide +kernel
theorem dX9_birds_51 : decode cX9_birds 51 = .ok (.if_icmp .gt 41, 3) := by decide +kernel
theorem dX9_birds_54 : decode cX9_birds 54 = .ok (.aload_n 0, 1) := by decide +kernel
theorem dX9_birds_55 : decode cX9_birds 55 = .ok (.getfield 19, 3) := by decide +kernel
theorem dX9_birds_58 : decode cX9_birds 58 = .ok (.iload 4, 2) := by decide +kernel
theorem dX9_birds_60 : decode cX9_birds 60 = .ok (.invokevirtual 289, 3) := by decide +kernel
theorem dX9_birds_63 : decode cX9_birds 63 = .ok (.istore 5, 2) := by decide +kernel
theorem dX9_birds_65 : decode cX9_birds 65 = .ok (.iload 5, 2) := by decide +kernel
theorem dX9_birds_67 : decode cX9_birds 67 = .ok (.iload_n 3, 1) := by decide +kernel
theorem dX9_birds_68 : decode cX9_birds 68 = .ok (.if_icmp .lt 18, 3) := by decide +kernel
theorem dX9_birds_71 : decode cX9_birds 71 = .ok (.iload 5, 2) := by decide +kernel
theorem dX9_birds_73 : decode cX9_birds 73 = .ok (.iload_n 3, 1) := by decide +kernel
theorem dX9_birds_74 : decode cX9_birds 74 = .ok (.if_icmp .ne 18, 3) := by decide +kernel
theorem dX9_birds_77 : decode cX9_birds 77 = .ok (.iload 4, 2) := by decide +kernel
theorem dX9_birds_79 : decode cX9_birds 79 = .ok (.iload_n 2, 1) := by decide +kernel
theorem dX9_birds_80 : decode cX9_birds 80 = .ok (.invokestatic 297, 3) := by decide +kernel
theorem dX9_birds_83 : decode cX9_birds 83 = .ok (.ifCond .eq 9, 3) := by decide +kernel
theorem dX9_birds_86 : decode cX9_birds 86 = .ok (.iload 4, 2) := by decide +kernel
theorem dX9_birds_88 : decode cX9_birds 88 = .ok (.istore_n 2, 1) := by decide +kernel
theorem dX9_birds_89 : decode cX9_birds 89 = .ok (.iload 5, 2) := by decide +kernel
theorem dX9_birds_91 : decode cX9_birds 91 = .ok (.istore_n 3, 1) := by decide +kernel
theorem dX9_birds_92 : decode cX9_birds 92 = .ok (.iinc 4 1, 3) := by decide +kernel
theorem dX9_birds_95 : decode cX9_birds 95 = .ok (.goto (-62), 3) := by decide +kernel
theorem dX9_birds_98 : decode cX9_birds 98 = .ok (.aload_n 0, 1) := by decide +kernel
theorem dX9_birds_99 : decode cX9_birds 99 = .ok (.iload_n 2, 1) := by decide +kernel
theorem dX9_birds_100 : decode cX9_birds 100 = .ok (.aload_n 0, 1) := by decide +kernel
theorem dX9_birds_101 : decode cX9_birds 101 = .ok (.getfield 19, 3) := by decide +kernel
theorem dX9_birds_104 : decode cX9_birds 104 = .ok (.getfield 274, 3) := by decide +kernel
theorem dX9_birds_107 : decode cX9_birds 107 = .ok (.aload_n 0, 1) := by decide +kernel
theorem dX9_birds_108 : decode cX9_birds 108 = .ok (.getfield 19, 3) := by decide +kernel
theorem dX9_birds_111 : decode cX9_birds 111 = .ok (.iload_n 2, 1) := by decide +kernel
theorem dX9_birds_112 : decode cX9_birds 112 = .ok (.invokevirtual 286, 3) := by decide +kernel
theorem dX9_birds_115 : decode cX9_birds 115 = .ok (.iconst (-1), 1) := by decide +kernel
theorem dX9_birds_116 : decode cX9_birds 116 = .ok (.ixor, 1) := by decide +kernel
theorem dX9_birds_117 : decode cX9_birds 117 = .ok (.iand, 1) := by decide +kernel
theorem dX9_birds_118 : decode cX9_birds 118 = .ok (.invokevirtual 234, 3) := by decide +kernel
theorem dX9_birds_121 : decode cX9_birds 121 = .ok (.iload_n 3, 1) := by decide +kernel
theorem dX9_birds_122 : decode cX9_birds 122 = .ok (.ireturn, 1) := by decide +kernel
theorem dX3_areStandings_0 : decode cX3_areStandings 0 = .ok (.iload_n 1, 1) := by decide +kernel
theorem dX3_areStandings_1 : decode cX3_areStandings 1 = .ok (.aload_n 0, 1) := by decide +kernel
theorem dX3_areStandings_2 : decode cX3_areStandings 2 = .ok (.invokevirtual 40, 3) := by decide +kernel
theorem dX3_areStandings_5 : decode cX3_areStandings 5 = .ok (.iconst (-1), 1) := by decide +kernel
theorem dX3_areStandings_6 : decode cX3_areStandings 6 = .ok (.ixor, 1) := by decide +kernel
theorem dX3_areStandings_7 : decode cX3_areStandings 7 = .ok (.iand, 1) := by decide +kernel
theorem dX3_areStandings_8 : decode cX3_areStandings 8 = .ok (.ifCond .ne 7, 3) := by decide +kernel
theorem dX3_areStandings_11 : decode cX3_areStandings 11 = .ok (.iconst 1, 1) := by decide +kernel
theorem dX3_areStandings_12 : decode cX3_areStandings 12 = .ok (.goto 4, 3) := by decide +kernel
theorem dX3_areStandings_15 : decode cX3_areStandings 15 = .ok (.iconst 0, 1) := by decide +kernel
theorem dX3_areStandings_16 : decode cX3_areStandings 16 = .ok (.ireturn, 1) := by decide +kernel
theorem dX9_next_0 : decode cX9_next 0 = .ok (.aload_n 0, 1) := by decide +kernel
theorem dX9_next_1 : decode cX9_next 1 = .ok (.getfield 34, 3) := by decide +kernel
theorem dX9_next_4 : decode cX9_next 4 = .ok (.iload_n 1, 1) := by decide +kernel
theorem dX9_next_5 : decode cX9_next 5 = .ok (.invokevirtual 301, 3) := by decide +kernel
theorem dX9_next_8 : decode cX9_next 8 = .ok (.ifCond .ne 5, 3) := by decide +kernel
theorem dX9_next_11 : decode cX9_next 11 = .ok (.iconst (-1), 1) := by decide +kernel
theorem dX9_next_12 : decode cX9_next 12 = .ok (.ireturn, 1) := by decide +kernel
theorem dX9_next_13 : decode cX9_next 13 = .ok (.aload_n 0, 1) := by decide +kernel
theorem dX9_next_14 : decode cX9_next 14 = .ok (.getfield 19, 3) := by decide +kernel
theorem dX9_next_17 : decode cX9_next 17 = .ok (.invokevirtual 265, 3) := by decide +kernel
theorem dX9_next_20 : decode cX9_next 20 = .ok (.bipush (-2), 2) := by decide +kernel
theorem dX9_next_22 : decode cX9_next 22 = .ok (.istore_n 2, 1) := by decide +kernel
theorem dX9_next_23 : decode cX9_next 23 = .ok (.iconst 0, 1) := by decide +kernel
theorem dX9_next_24 : decode cX9_next 24 = .ok (.istore_n 3, 1) := by decide +kernel
theorem dX9_next_25 : decode cX9_next 25 = .ok (.iconst 0, 1) := by decide +kernel
theorem dX9_next_26 : decode cX9_next 26 = .ok (.istore 4, 2) := by decide +kernel
theorem dX9_next_28 : decode cX9_next 28 = .ok (.iload 4, 2) := by decide +kernel
theorem dX9_next_30 : decode cX9_next 30 = .ok (.aload_n 0, 1) := by decide +kernel
theorem dX9_next_31 : decode cX9_next 31 = .ok (.getfield 34, 3) := by decide +kernel
theorem dX9_next_34 : decode cX9_next 34 = .ok (.getfield 250, 3) := by decide +kernel
theorem dX9_next_37 : decode cX9_next 37 = .ok (.if_icmp .ge 49, 3) := by decide +kernel
theorem dX9_next_40 : decode cX9_next 40 = .ok (.iload_n 1, 1) := by decide +kernel
theorem dX9_next_41 : decode cX9_next 41 = .ok (.iload 4, 2) := by decide +kernel
theorem dX9_next_43 : decode cX9_next 43 = .ok (.ishr, 1) := by decide +kernel
theorem dX9_next_44 : decode cX9_next 44 = .ok (.iconst 1, 1) := by decide +kernel
theorem dX9_next_45 : decode cX9_next 45 = .ok (.iand, 1) := by decide +kernel
theorem dX9_next_46 : decode cX9_next 46 = .ok (.ifCond .ne 34, 3) := by decide +kernel
theorem dX9_next_49 : decode cX9_next 49 = .ok (.aload_n 0, 1) := by decide +kernel
theorem dX9_next_50 : decode cX9_next 50 = .ok (.getfield 19, 3) := by decide +kernel
theorem dX9_next_53 : decode cX9_next 53 = .ok (.iload_n 1, 1) := by decide +kernel
theorem dX9_next_54 : decode cX9_next 54 = .ok (.iconst 1, 1) := by decide +kernel
theorem dX9_next_55 : decode cX9_next 55 = .ok (.iload 4, 2) := by decide +kernel
theorem dX9_next_57 : decode cX9_next 57 = .ok (.ishl, 1) := by decide +kernel
theorem dX9_next_58 : decode cX9_next 58 = .ok (.ior, 1) := by decide +kernel
theorem dX9_next_59 : decode cX9_next 59 = .ok (.invokevirtual 289, 3) := by decide +kernel
theorem dX9_next_62 : decode cX9_next 62 = .ok (.istore 5, 2) := by decide +kernel
theorem dX9_next_64 : decode cX9_next 64 = .ok (.iload_n 2, 1) := by decide +kernel
theorem dX9_next_65 : decode cX9_next 65 = .ok (.ifCond .lt 9, 3) := by decide +kernel
theorem dX9_next_68 : decode cX9_next 68 = .ok (.iload 5, 2) := by decide +kernel
theorem dX9_next_70 : decode cX9_next 70 = .ok (.iload_n 3, 1) := by decide +kernel
theorem dX9_next_71 : decode cX9_next 71 = .ok (.if_icmp .ge 9, 3) := by decide +kernel
theorem dX9_next_74 : decode cX9_next 74 = .ok (.iload 4, 2) := by decide +kernel
theorem dX9_next_76 : decode cX9_next 76 = .ok (.istore_n 2, 1) := by decide +kernel
theorem dX9_next_77 : decode cX9_next 77 = .ok (.iload 5, 2) := by decide +kernel
theorem dX9_next_79 : decode cX9_next 79 = .ok (.istore_n 3, 1) := by decide +kernel
theorem dX9_next_80 : decode cX9_next 80 = .ok (.iinc 4 1, 3) := by decide +kernel
theorem dX9_next_83 : decode cX9_next 83 = .ok (.goto (-55), 3) := by decide +kernel
theorem dX9_next_86 : decode cX9_next 86 = .ok (.iload_n 2, 1) := by decide +kernel
theorem dX9_next_87 : decode cX9_next 87 = .ok (.ifCond .lt 16, 3) := by decide +kernel
theorem dX9_next_90 : decode cX9_next 90 = .ok (.aload_n 0, 1) := by decide +kernel
theorem dX9_next_91 : decode cX9_next 91 = .ok (.iload_n 3, 1) := by decide +kernel
theorem dX9_next_92 : decode cX9_next 92 = .ok (.aload_n 0, 1) := by decide +kernel
theorem dX9_next_93 : decode cX9_next 93 = .ok (.getfield 19, 3) := by decide +kernel
theorem dX9_next_96 : decode cX9_next 96 = .ok (.iload_n 1, 1) := by decide +kernel
theorem dX9_next_97 : decode cX9_next 97 = .ok (.invokevirtual 289, 3) := by decide +kernel
theorem dX9_next_100 : decode cX9_next 100 = .ok (.invokevirtual 234, 3) := by decide +kernel
theorem dX9_next_103 : decode cX9_next 103 = .ok (.iload_n 2, 1) := by decide +kernel
theorem dX9_next_104 : decode cX9_next 104 = .ok (.ireturn, 1) := by decide +kernel
theorem dX0_withoutLadder_0 : decode cX0_withoutLadder 0 = .ok (.aload_n 0, 1) := by decide +kernel
theorem dX0_withoutLadder_1 : decode cX0_withoutLadder 1 = .ok (.getfield 21, 3) := by decide +kernel
theorem dX0_withoutLadder_4 : decode cX0_withoutLadder 4 = .ok (.getfield 53, 3) := by decide +kernel
theorem dX0_withoutLadder_7 : decode cX0_withoutLadder 7 = .ok (.iconst (-1), 1) := by decide +kernel
theorem dX0_withoutLadder_8 : decode cX0_withoutLadder 8 = .ok (.if_icmp .ne 7, 3) := by decide +kernel
theorem dX0_withoutLadder_11 : decode cX0_withoutLadder 11 = .ok (.iload_n 1, 1) := by decide +kernel
theorem dX0_withoutLadder_12 : decode cX0_withoutLadder 12 = .ok (.goto 16, 3) := by decide +kernel
theorem dX0_withoutLadder_15 : decode cX0_withoutLadder 15 = .ok (.iload_n 1, 1) := by decide +kernel
theorem dX0_withoutLadder_16 : decode cX0_withoutLadder 16 = .ok (.iconst 1, 1) := by decide +kernel
theorem dX0_withoutLadder_17 : decode cX0_withoutLadder 17 = .ok (.aload_n 0, 1) := by decide +kernel
theorem dX0_withoutLadder_18 : decode cX0_withoutLadder 18 = .ok (.getfield 21, 3) := by decide +kernel
theorem dX0_withoutLadder_21 : decode cX0_withoutLadder 21 = .ok (.getfield 53, 3) := by decide +kernel
theorem dX0_withoutLadder_24 : decode cX0_withoutLadder 24 = .ok (.ishl, 1) := by decide +kernel
theorem dX0_withoutLadder_25 : decode cX0_withoutLadder 25 = .ok (.iconst (-1), 1) := by decide +kernel
theorem dX0_withoutLadder_26 : decode cX0_withoutLadder 26 = .ok (.ixor, 1) := by decide +kernel
theorem dX0_withoutLadder_27 : decode cX0_withoutLadder 27 = .ok (.iand, 1) := by decide +kernel
theorem dX0_withoutLadder_28 : decode cX0_withoutLadder 28 = .ok (.ireturn, 1) := by decide +kernel
theorem dX3_waySeconds_0 : decode cX3_waySeconds 0 = .ok (.iload_n 2, 1) := by decide +kernel
theorem dX3_waySeconds_1 : decode cX3_waySeconds 1 = .ok (.invokestatic 108, 3) := by decide +kernel
theorem dX3_waySeconds_4 : decode cX3_waySeconds 4 = .ok (.istore_n 3, 1) := by decide +kernel
theorem dX3_waySeconds_5 : decode cX3_waySeconds 5 = .ok (.iload_n 3, 1) := by decide +kernel
theorem dX3_waySeconds_6 : decode cX3_waySeconds 6 = .ok (.ifCond .ne 5, 3) := by decide +kernel
theorem dX3_waySeconds_9 : decode cX3_waySeconds 9 = .ok (.iconst 0, 1) := by decide +kernel
theorem dX3_waySeconds_10 : decode cX3_waySeconds 10 = .ok (.ireturn, 1) := by decide +kernel
theorem dX3_waySeconds_11 : decode cX3_waySeconds 11 = .ok (.bipush 99, 2) := by decide +kernel
theorem dX3_waySeconds_13 : decode cX3_waySeconds 13 = .ok (.istore 4, 2) := by decide +kernel
theorem dX3_waySeconds_15 : decode cX3_waySeconds 15 = .ok (.iconst 0, 1) := by decide +kernel
theorem dX3_waySeconds_16 : decode cX3_waySeconds 16 = .ok (.istore 5, 2) := by decide +kernel
theorem dX3_waySeconds_18 : decode cX3_waySeconds 18 = .ok (.iconst 0, 1) := by decide +kernel
theorem dX3_waySeconds_19 : decode cX3_waySeconds 19 = .ok (.istore 6, 2) := by decide +kernel
theorem dX3_waySeconds_21 : decode cX3_waySeconds 21 = .ok (.iload 6, 2) := by decide +kernel
theorem dX3_waySeconds_23 : decode cX3_waySeconds 23 = .ok (.aload_n 0, 1) := by decide +kernel
theorem dX3_waySeconds_24 : decode cX3_waySeconds 24 = .ok (.getfield 37, 3) := by decide +kernel
theorem dX3_waySeconds_27 : decode cX3_waySeconds 27 = .ok (.if_icmp .ge 46, 3) := by decide +kernel
theorem dX3_waySeconds_30 : decode cX3_waySeconds 30 = .ok (.iload_n 2, 1) := by decide +kernel
theorem dX3_waySeconds_31 : decode cX3_waySeconds 31 = .ok (.iload 6, 2) := by decide +kernel
theorem dX3_waySeconds_33 : decode cX3_waySeconds 33 = .ok (.ishr, 1) := by decide +kernel
theorem dX3_waySeconds_34 : decode cX3_waySeconds 34 = .ok (.iconst 1, 1) := by decide +kernel
theorem dX3_waySeconds_35 : decode cX3_waySeconds 35 = .ok (.iand, 1) := by decide +kernel
theorem dX3_waySeconds_36 : decode cX3_waySeconds 36 = .ok (.ifCond .eq 31, 3) := by decide +kernel
theorem dX3_waySeconds_39 : decode cX3_waySeconds 39 = .ok (.iload 4, 2) := by decide +kernel
theorem dX3_waySeconds_41 : decode cX3_waySeconds 41 = .ok (.aload_n 0, 1) := by decide +kernel
theorem dX3_waySeconds_42 : decode cX3_waySeconds 42 = .ok (.getfield 24, 3) := by decide +kernel
theorem dX3_waySeconds_45 : decode cX3_waySeconds 45 = .ok (.iload 6, 2) := by decide +kernel
theorem dX3_waySeconds_47 : decode cX3_waySeconds 47 = .ok (.iaload, 1) := by decide +kernel
theorem dX3_waySeconds_48 : decode cX3_waySeconds 48 = .ok (.invokestatic 80, 3) := by decide +kernel
theorem dX3_waySeconds_51 : decode cX3_waySeconds 51 = .ok (.istore 4, 2) := by decide +kernel
theorem dX3_waySeconds_53 : decode cX3_waySeconds 53 = .ok (.iload 5, 2) := by decide +kernel
theorem dX3_waySeconds_55 : decode cX3_waySeconds 55 = .ok (.aload_n 0, 1) := by decide +kernel
theorem dX3_waySeconds_56 : decode cX3_waySeconds 56 = .ok (.getfield 24, 3) := by decide +kernel
theorem dX3_waySeconds_59 : decode cX3_waySeconds 59 = .ok (.iload 6, 2) := by decide +kernel
theorem dX3_waySeconds_61 : decode cX3_waySeconds 61 = .ok (.iaload, 1) := by decide +kernel
theorem dX3_waySeconds_62 : decode cX3_waySeconds 62 = .ok (.invokestatic 86, 3) := by decide +kernel
theorem dX3_waySeconds_65 : decode cX3_waySeconds 65 = .ok (.istore 5, 2) := by decide +kernel
theorem dX3_waySeconds_67 : decode cX3_waySeconds 67 = .ok (.iinc 6 1, 3) := by decide +kernel
theorem dX3_waySeconds_70 : decode cX3_waySeconds 70 = .ok (.goto (-49), 3) := by decide +kernel
theorem dX3_waySeconds_73 : decode cX3_waySeconds 73 = .ok (.iload 5, 2) := by decide +kernel
theorem dX3_waySeconds_75 : decode cX3_waySeconds 75 = .ok (.iload 4, 2) := by decide +kernel
theorem dX3_waySeconds_77 : decode cX3_waySeconds 77 = .ok (.isub, 1) := by decide +kernel
theorem dX3_waySeconds_78 : decode cX3_waySeconds 78 = .ok (.istore 6, 2) := by decide +kernel
theorem dX3_waySeconds_80 : decode cX3_waySeconds 80 = .ok (.iload_n 1, 1) := by decide +kernel
theorem dX3_waySeconds_81 : decode cX3_waySeconds 81 = .ok (.iconst (-1), 1) := by decide +kernel
theorem dX3_waySeconds_82 : decode cX3_waySeconds 82 = .ok (.if_icmp .eq 35, 3) := by decide +kernel
theorem dX3_waySeconds_85 : decode cX3_waySeconds 85 = .ok (.iload 6, 2) := by decide +kernel
theorem dX3_waySeconds_87 : decode cX3_waySeconds 87 = .ok (.aload_n 0, 1) := by decide +kernel
theorem dX3_waySeconds_88 : decode cX3_waySeconds 88 = .ok (.getfield 24, 3) := by decide +kernel
theorem dX3_waySeconds_91 : decode cX3_waySeconds 91 = .ok (.iload_n 1, 1) := by decide +kernel
theorem dX3_waySeconds_92 : decode cX3_waySeconds 92 = .ok (.iaload, 1) := by decide +kernel
theorem dX3_waySeconds_93 : decode cX3_waySeconds 93 = .ok (.iload 4, 2) := by decide +kernel
theorem dX3_waySeconds_95 : decode cX3_waySeconds 95 = .ok (.isub, 1) := by decide +kernel
theorem dX3_waySeconds_96 : decode cX3_waySeconds 96 = .ok (.invokestatic 89, 3) := by decide +kernel
theorem dX3_waySeconds_99 : decode cX3_waySeconds 99 = .ok (.aload_n 0, 1) := by decide +kernel
theorem dX3_waySeconds_100 : decode cX3_waySeconds 100 = .ok (.getfield 24, 3) := by decide +kernel
theorem dX3_waySeconds_103 : decode cX3_waySeconds 103 = .ok (.iload_n 1, 1) := by decide +kernel
theorem dX3_waySeconds_104 : decode cX3_waySeconds 104 = .ok (.iaload, 1) := by decide +kernel
theorem dX3_waySeconds_105 : decode cX3_waySeconds 105 = .ok (.iload 5, 2) := by decide +kernel
theorem dX3_waySeconds_107 : decode cX3_waySeconds 107 = .ok (.isub, 1) := by decide +kernel
theorem dX3_waySeconds_108 : decode cX3_waySeconds 108 = .ok (.invokestatic 89, 3) := by decide +kernel
theorem dX3_waySeconds_111 : decode cX3_waySeconds 111 = .ok (.invokestatic 80, 3) := by decide +kernel
theorem dX3_waySeconds_114 : decode cX3_waySeconds 114 = .ok (.iadd, 1) := by decide +kernel
theorem dX3_waySeconds_115 : decode cX3_waySeconds 115 = .ok (.istore 6, 2) := by decide +kernel
theorem dX3_waySeconds_117 : decode cX3_waySeconds 117 = .ok (.bipush 9, 2) := by decide +kernel
theorem dX3_waySeconds_119 : decode cX3_waySeconds 119 = .ok (.iload_n 3, 1) := by decide +kernel
theorem dX3_waySeconds_120 : decode cX3_waySeconds 120 = .ok (.imul, 1) := by decide +kernel
theorem dX3_waySeconds_121 : decode cX3_waySeconds 121 = .ok (.aload_n 0, 1) := by decide +kernel
theorem dX3_waySeconds_122 : decode cX3_waySeconds 122 = .ok (.getfield 30, 3) := by decide +kernel
theorem dX3_waySeconds_125 : decode cX3_waySeconds 125 = .ok (.iconst 3, 1) := by decide +kernel
theorem dX3_waySeconds_126 : decode cX3_waySeconds 126 = .ok (.iaload, 1) := by decide +kernel
theorem dX3_waySeconds_127 : decode cX3_waySeconds 127 = .ok (.iload 6, 2) := by decide +kernel
theorem dX3_waySeconds_129 : decode cX3_waySeconds 129 = .ok (.imul, 1) := by decide +kernel
theorem dX3_waySeconds_130 : decode cX3_waySeconds 130 = .ok (.iadd, 1) := by decide +kernel
theorem dX3_waySeconds_131 : decode cX3_waySeconds 131 = .ok (.ireturn, 1) := by decide +kernel
theorem dX3_firstOfWay_0 : decode cX3_firstOfWay 0 = .ok (.iconst 0, 1) := by decide +kernel
theorem dX3_firstOfWay_1 : decode cX3_firstOfWay 1 = .ok (.istore 4, 2) := by decide +kernel
theorem dX3_firstOfWay_3 : decode cX3_firstOfWay 3 = .ok (.iload 4, 2) := by decide +kernel
theorem dX3_firstOfWay_5 : decode cX3_firstOfWay 5 = .ok (.aload_n 0, 1) := by decide +kernel
theorem dX3_firstOfWay_6 : decode cX3_firstOfWay 6 = .ok (.getfield 37, 3) := by decide +kernel
theorem dX3_firstOfWay_9 : decode cX3_firstOfWay 9 = .ok (.if_icmp .ge 47, 3) := by decide +kernel
theorem dX3_firstOfWay_12 : decode cX3_firstOfWay 12 = .ok (.iload_n 2, 1) := by decide +kernel
theorem dX3_firstOfWay_13 : decode cX3_firstOfWay 13 = .ok (.iload 4, 2) := by decide +kernel
theorem dX3_firstOfWay_15 : decode cX3_firstOfWay 15 = .ok (.ishr, 1) := by decide +kernel
theorem dX3_firstOfWay_16 : decode cX3_firstOfWay 16 = .ok (.iconst 1, 1) := by decide +kernel
theorem dX3_firstOfWay_17 : decode cX3_firstOfWay 17 = .ok (.iand, 1) := by decide +kernel
theorem dX3_firstOfWay_18 : decode cX3_firstOfWay 18 = .ok (.ifCond .eq 32, 3) := by decide +kernel
theorem dX3_firstOfWay_21 : decode cX3_firstOfWay 21 = .ok (.aload_n 0, 1) := by decide +kernel
theorem dX3_firstOfWay_22 : decode cX3_firstOfWay 22 = .ok (.iload_n 1, 1) := by decide +kernel
theorem dX3_firstOfWay_23 : decode cX3_firstOfWay 23 = .ok (.iload 4, 2) := by decide +kernel
theorem dX3_firstOfWay_25 : decode cX3_firstOfWay 25 = .ok (.invokevirtual 113, 3) := by decide +kernel
theorem dX3_firstOfWay_28 : decode cX3_firstOfWay 28 = .ok (.aload_n 0, 1) := by decide +kernel
theorem dX3_firstOfWay_29 : decode cX3_firstOfWay 29 = .ok (.iload 4, 2) := by decide +kernel
theorem dX3_firstOfWay_31 : decode cX3_firstOfWay 31 = .ok (.iload_n 2, 1) := by decide +kernel
theorem dX3_firstOfWay_32 : decode cX3_firstOfWay 32 = .ok (.iconst 1, 1) := by decide +kernel
theorem dX3_firstOfWay_33 : decode cX3_firstOfWay 33 = .ok (.iload 4, 2) := by decide +kernel
theorem dX3_firstOfWay_35 : decode cX3_firstOfWay 35 = .ok (.ishl, 1) := by decide +kernel
theorem dX3_firstOfWay_36 : decode cX3_firstOfWay 36 = .ok (.iconst (-1), 1) := by decide +kernel
theorem dX3_firstOfWay_37 : decode cX3_firstOfWay 37 = .ok (.ixor, 1) := by decide +kernel
theorem dX3_firstOfWay_38 : decode cX3_firstOfWay 38 = .ok (.iand, 1) := by decide +kernel
theorem dX3_firstOfWay_39 : decode cX3_firstOfWay 39 = .ok (.invokevirtual 116, 3) := by decide +kernel
theorem dX3_firstOfWay_42 : decode cX3_firstOfWay 42 = .ok (.iadd, 1) := by decide +kernel
theorem dX3_firstOfWay_43 : decode cX3_firstOfWay 43 = .ok (.iload_n 3, 1) := by decide +kernel
theorem dX3_firstOfWay_44 : decode cX3_firstOfWay 44 = .ok (.if_icmp .ne 6, 3) := by decide +kernel
theorem dX3_firstOfWay_47 : decode cX3_firstOfWay 47 = .ok (.iload 4, 2) := by decide +kernel
theorem dX3_firstOfWay_49 : decode cX3_firstOfWay 49 = .ok (.ireturn, 1) := by decide +kernel
theorem dX3_firstOfWay_50 : decode cX3_firstOfWay 50 = .ok (.iinc 4 1, 3) := by decide +kernel
theorem dX3_firstOfWay_53 : decode cX3_firstOfWay 53 = .ok (.goto (-50), 3) := by decide +kernel
theorem dX3_firstOfWay_56 : decode cX3_firstOfWay 56 = .ok (.iconst (-1), 1) := by decide +kernel
theorem dX3_firstOfWay_57 : decode cX3_firstOfWay 57 = .ok (.ireturn, 1) := by decide +kernel
theorem dX9_route_0 : decode cX9_route 0 = .ok (.aload_n 0, 1) := by decide +kernel
theorem dX9_route_1 : decode cX9_route 1 = .ok (.getfield 34, 3) := by decide +kernel
theorem dX9_route_4 : decode cX9_route 4 = .ok (.iload_n 1, 1) := by decide +kernel
theorem dX9_route_5 : decode cX9_route 5 = .ok (.invokevirtual 301, 3) := by decide +kernel
theorem dX9_route_8 : decode cX9_route 8 = .ok (.ifCond .ne 5, 3) := by decide +kernel
theorem dX9_route_11 : decode cX9_route 11 = .ok (.iconst (-1), 1) := by decide +kernel
theorem dX9_route_12 : decode cX9_route 12 = .ok (.ireturn, 1) := by decide +kernel
theorem dX9_route_13 : decode cX9_route 13 = .ok (.aload_n 0, 1) := by decide +kernel
theorem dX9_route_14 : decode cX9_route 14 = .ok (.getfield 50, 3) := by decide +kernel
theorem dX9_route_17 : decode cX9_route 17 = .ok (.invokevirtual 304, 3) := by decide +kernel
theorem dX9_route_20 : decode cX9_route 20 = .ok (.aload_n 0, 1) := by decide +kernel
theorem dX9_route_21 : decode cX9_route 21 = .ok (.getfield 27, 3) := by decide +kernel
theorem dX9_route_24 : decode cX9_route 24 = .ok (.iload_n 1, 1) := by decide +kernel
theorem dX9_route_25 : decode cX9_route 25 = .ok (.invokevirtual 305, 3) := by decide +kernel
theorem dX9_route_28 : decode cX9_route 28 = .ok (.istore_n 2, 1) := by decide +kernel
theorem dX9_route_29 : decode cX9_route 29 = .ok (.aload_n 0, 1) := by decide +kernel
theorem dX9_route_30 : decode cX9_route 30 = .ok (.getfield 39, 3) := by decide +kernel
theorem dX9_route_33 : decode cX9_route 33 = .ok (.getfield 308, 3) := by decide +kernel
theorem dX9_route_36 : decode cX9_route 36 = .ok (.istore_n 3, 1) := by decide +kernel
theorem dX9_route_37 : decode cX9_route 37 = .ok (.aload_n 0, 1) := by decide +kernel
theorem dX9_route_38 : decode cX9_route 38 = .ok (.getfield 34, 3) := by decide +kernel
theorem dX9_route_41 : decode cX9_route 41 = .ok (.iload_n 3, 1) := by decide +kernel
theorem dX9_route_42 : decode cX9_route 42 = .ok (.iload_n 2, 1) := by decide +kernel
theorem dX9_route_43 : decode cX9_route 43 = .ok (.invokevirtual 311, 3) := by decide +kernel
theorem dX9_route_46 : decode cX9_route 46 = .ok (.istore 4, 2) := by decide +kernel
theorem dX9_route_48 : decode cX9_route 48 = .ok (.iload 4, 2) := by decide +kernel
theorem dX9_route_50 : decode cX9_route 50 = .ok (.istore 5, 2) := by decide +kernel
theorem dX9_route_52 : decode cX9_route 52 = .ok (.iconst 0, 1) := by decide +kernel
theorem dX9_route_53 : decode cX9_route 53 = .ok (.istore 6, 2) := by decide +kernel
theorem dX9_route_55 : decode cX9_route 55 = .ok (.iload 6, 2) := by decide +kernel
theorem dX9_route_57 : decode cX9_route 57 = .ok (.bipush 8, 2) := by decide +kernel
theorem dX9_route_59 : decode cX9_route 59 = .ok (.if_icmp .ge 71, 3) := by decide +kernel
theorem dX9_route_62 : decode cX9_route 62 = .ok (.iload_n 2, 1) := by decide +kernel
theorem dX9_route_63 : decode cX9_route 63 = .ok (.ifCond .eq 67, 3) := by decide +kernel
theorem dX9_route_66 : decode cX9_route 66 = .ok (.aload_n 0, 1) := by decide +kernel
theorem dX9_route_67 : decode cX9_route 67 = .ok (.getfield 34, 3) := by decide +kernel
theorem dX9_route_70 : decode cX9_route 70 = .ok (.iload_n 3, 1) := by decide +kernel
theorem dX9_route_71 : decode cX9_route 71 = .ok (.iload_n 2, 1) := by decide +kernel
theorem dX9_route_72 : decode cX9_route 72 = .ok (.iload 5, 2) := by decide +kernel
theorem dX9_route_74 : decode cX9_route 74 = .ok (.invokevirtual 314, 3) := by decide +kernel
theorem dX9_route_77 : decode cX9_route 77 = .ok (.istore 7, 2) := by decide +kernel
theorem dX9_route_79 : decode cX9_route 79 = .ok (.iload 7, 2) := by decide +kernel
theorem dX9_route_81 : decode cX9_route 81 = .ok (.iconst (-1), 1) := by decide +kernel
theorem dX9_route_82 : decode cX9_route 82 = .ok (.if_icmp .ne 6, 3) := by decide +kernel
theorem dX9_route_85 : decode cX9_route 85 = .ok (.goto 45, 3) := by decide +kernel
theorem dX9_route_88 : decode cX9_route 88 = .ok (.aload_n 0, 1) := by decide +kernel
theorem dX9_route_89 : decode cX9_route 89 = .ok (.getfield 50, 3) := by decide +kernel
theorem dX9_route_92 : decode cX9_route 92 = .ok (.iload 7, 2) := by decide +kernel
theorem dX9_route_94 : decode cX9_route 94 = .ok (.invokevirtual 318, 3) := by decide +kernel
theorem dX9_route_97 : decode cX9_route 97 = .ok (.iload 5, 2) := by decide +kernel
theorem dX9_route_99 : decode cX9_route 99 = .ok (.aload_n 0, 1) := by decide +kernel
theorem dX9_route_100 : decode cX9_route 100 = .ok (.getfield 34, 3) := by decide +kernel
theorem dX9_route_103 : decode cX9_route 103 = .ok (.iload_n 3, 1) := by decide +kernel
theorem dX9_route_104 : decode cX9_route 104 = .ok (.iload 7, 2) := by decide +kernel
theorem dX9_route_106 : decode cX9_route 106 = .ok (.invokevirtual 320, 3) := by decide +kernel
theorem dX9_route_109 : decode cX9_route 109 = .ok (.isub, 1) := by decide +kernel
theorem dX9_route_110 : decode cX9_route 110 = .ok (.istore 5, 2) := by decide +kernel
theorem dX9_route_112 : decode cX9_route 112 = .ok (.iload_n 2, 1) := by decide +kernel
theorem dX9_route_113 : decode cX9_route 113 = .ok (.iconst 1, 1) := by decide +kernel
theorem dX9_route_114 : decode cX9_route 114 = .ok (.iload 7, 2) := by decide +kernel
theorem dX9_route_116 : decode cX9_route 116 = .ok (.ishl, 1) := by decide +kernel
theorem dX9_route_117 : decode cX9_route 117 = .ok (.iconst (-1), 1) := by decide +kernel
theorem dX9_route_118 : decode cX9_route 118 = .ok (.ixor, 1) := by decide +kernel
theorem dX9_route_119 : decode cX9_route 119 = .ok (.iand, 1) := by decide +kernel
theorem dX9_route_120 : decode cX9_route 120 = .ok (.istore_n 2, 1) := by decide +kernel
theorem dX9_route_121 : decode cX9_route 121 = .ok (.iload 7, 2) := by decide +kernel
theorem dX9_route_123 : decode cX9_route 123 = .ok (.istore_n 3, 1) := by decide +kernel
theorem dX9_route_124 : decode cX9_route 124 = .ok (.iinc 6 1, 3) := by decide +kernel
theorem dX9_route_127 : decode cX9_route 127 = .ok (.goto (-72), 3) := by decide +kernel
theorem dX9_route_130 : decode cX9_route 130 = .ok (.iload 4, 2) := by decide +kernel
theorem dX9_route_132 : decode cX9_route 132 = .ok (.ireturn, 1) := by decide +kernel
theorem dX5_timeAll_0 : decode cX5_timeAll 0 = .ok (.iconst 0, 1) := by decide +kernel
theorem dX5_timeAll_1 : decode cX5_timeAll 1 = .ok (.istore_n 1, 1) := by decide +kernel
theorem dX5_timeAll_2 : decode cX5_timeAll 2 = .ok (.iload_n 1, 1) := by decide +kernel
theorem dX5_timeAll_3 : decode cX5_timeAll 3 = .ok (.aload_n 0, 1) := by decide +kernel
theorem dX5_timeAll_4 : decode cX5_timeAll 4 = .ok (.getfield 24, 3) := by decide +kernel
theorem dX5_timeAll_7 : decode cX5_timeAll 7 = .ok (.getfield 97, 3) := by decide +kernel
theorem dX5_timeAll_10 : decode cX5_timeAll 10 = .ok (.if_icmp .ge 62, 3) := by decide +kernel
theorem dX5_timeAll_13 : decode cX5_timeAll 13 = .ok (.iconst 0, 1) := by decide +kernel
theorem dX5_timeAll_14 : decode cX5_timeAll 14 = .ok (.istore_n 2, 1) := by decide +kernel
theorem dX5_timeAll_15 : decode cX5_timeAll 15 = .ok (.iload_n 2, 1) := by decide +kernel
theorem dX5_timeAll_16 : decode cX5_timeAll 16 = .ok (.aload_n 0, 1) := by decide +kernel
theorem dX5_timeAll_17 : decode cX5_timeAll 17 = .ok (.getfield 24, 3) := by decide +kernel
theorem dX5_timeAll_20 : decode cX5_timeAll 20 = .ok (.getfield 64, 3) := by decide +kernel
theorem dX5_timeAll_23 : decode cX5_timeAll 23 = .ok (.if_icmp .ge 43, 3) := by decide +kernel
theorem dX5_timeAll_26 : decode cX5_timeAll 26 = .ok (.aload_n 0, 1) := by decide +kernel
theorem dX5_timeAll_27 : decode cX5_timeAll 27 = .ok (.iload_n 2, 1) := by decide +kernel
theorem dX5_timeAll_28 : decode cX5_timeAll 28 = .ok (.invokevirtual 100, 3) := by decide +kernel
theorem dX5_timeAll_31 : decode cX5_timeAll 31 = .ok (.iload_n 1, 1) := by decide +kernel
theorem dX5_timeAll_32 : decode cX5_timeAll 32 = .ok (.ishr, 1) := by decide +kernel
theorem dX5_timeAll_33 : decode cX5_timeAll 33 = .ok (.iconst 1, 1) := by decide +kernel
theorem dX5_timeAll_34 : decode cX5_timeAll 34 = .ok (.iand, 1) := by decide +kernel
theorem dX5_timeAll_35 : decode cX5_timeAll 35 = .ok (.ifCond .eq 25, 3) := by decide +kernel
theorem dX5_timeAll_38 : decode cX5_timeAll 38 = .ok (.aload_n 0, 1) := by decide +kernel
theorem dX5_timeAll_39 : decode cX5_timeAll 39 = .ok (.getfield 29, 3) := by decide +kernel
theorem dX5_timeAll_42 : decode cX5_timeAll 42 = .ok (.iload_n 1, 1) := by decide +kernel
theorem dX5_timeAll_43 : decode cX5_timeAll 43 = .ok (.bipush 8, 2) := by decide +kernel
theorem dX5_timeAll_45 : decode cX5_timeAll 45 = .ok (.imul, 1) := by decide +kernel
theorem dX5_timeAll_46 : decode cX5_timeAll 46 = .ok (.iload_n 2, 1) := by decide +kernel
theorem dX5_timeAll_47 : decode cX5_timeAll 47 = .ok (.iadd, 1) := by decide +kernel
theorem dX5_timeAll_48 : decode cX5_timeAll 48 = .ok (.aload_n 0, 1) := by decide +kernel
theorem dX5_timeAll_49 : decode cX5_timeAll 49 = .ok (.getfield 14, 3) := by decide +kernel
theorem dX5_timeAll_52 : decode cX5_timeAll 52 = .ok (.iload_n 1, 1) := by decide +kernel
theorem dX5_timeAll_53 : decode cX5_timeAll 53 = .ok (.iload_n 2, 1) := by decide +kernel
theorem dX5_timeAll_54 : decode cX5_timeAll 54 = .ok (.iconst 0, 1) := by decide +kernel
theorem dX5_timeAll_55 : decode cX5_timeAll 55 = .ok (.iconst 0, 1) := by decide +kernel
theorem dX5_timeAll_56 : decode cX5_timeAll 56 = .ok (.invokevirtual 103, 3) := by decide +kernel
theorem dX5_timeAll_59 : decode cX5_timeAll 59 = .ok (.iastore, 1) := by decide +kernel
theorem dX5_timeAll_60 : decode cX5_timeAll 60 = .ok (.iinc 2 1, 3) := by decide +kernel
theorem dX5_timeAll_63 : decode cX5_timeAll 63 = .ok (.goto (-48), 3) := by decide +kernel
theorem dX5_timeAll_66 : decode cX5_timeAll 66 = .ok (.iinc 1 1, 3) := by decide +kernel
theorem dX5_timeAll_69 : decode cX5_timeAll 69 = .ok (.goto (-67), 3) := by decide +kernel
theorem dX5_timeAll_72 : decode cX5_timeAll 72 = .ok (.return_, 1) := by decide +kernel
theorem dX5_quickest_0 : decode cX5_quickest 0 = .ok (.iconst (-1), 1) := by decide +kernel
theorem dX5_quickest_1 : decode cX5_quickest 1 = .ok (.istore_n 3, 1) := by decide +kernel
theorem dX5_quickest_2 : decode cX5_quickest 2 = .ok (.iconst 0, 1) := by decide +kernel
theorem dX5_quickest_3 : decode cX5_quickest 3 = .ok (.istore 4, 2) := by decide +kernel
theorem dX5_quickest_5 : decode cX5_quickest 5 = .ok (.iconst 0, 1) := by decide +kernel
theorem dX5_quickest_6 : decode cX5_quickest 6 = .ok (.istore 5, 2) := by decide +kernel
theorem dX5_quickest_8 : decode cX5_quickest 8 = .ok (.iload 5, 2) := by decide +kernel
theorem dX5_quickest_10 : decode cX5_quickest 10 = .ok (.aload_n 0, 1) := by decide +kernel
theorem dX5_quickest_11 : decode cX5_quickest 11 = .ok (.getfield 24, 3) := by decide +kernel
theorem dX5_quickest_14 : decode cX5_quickest 14 = .ok (.getfield 64, 3) := by decide +kernel
theorem dX5_quickest_17 : decode cX5_quickest 17 = .ok (.if_icmp .ge 65, 3) := by decide +kernel
theorem dX5_quickest_20 : decode cX5_quickest 20 = .ok (.iload_n 2, 1) := by decide +kernel
theorem dX5_quickest_21 : decode cX5_quickest 21 = .ok (.iload 5, 2) := by decide +kernel
theorem dX5_quickest_23 : decode cX5_quickest 23 = .ok (.ishr, 1) := by decide +kernel
theorem dX5_quickest_24 : decode cX5_quickest 24 = .ok (.iconst 1, 1) := by decide +kernel
theorem dX5_quickest_25 : decode cX5_quickest 25 = .ok (.iand, 1) := by decide +kernel
theorem dX5_quickest_26 : decode cX5_quickest 26 = .ok (.ifCond .eq 50, 3) := by decide +kernel
theorem dX5_quickest_29 : decode cX5_quickest 29 = .ok (.aload_n 0, 1) := by decide +kernel
theorem dX5_quickest_30 : decode cX5_quickest 30 = .ok (.getfield 25, 3) := by decide +kernel
theorem dX5_quickest_33 : decode cX5_quickest 33 = .ok (.iload 5, 2) := by decide +kernel
theorem dX5_quickest_35 : decode cX5_quickest 35 = .ok (.iaload, 1) := by decide +kernel
theorem dX5_quickest_36 : decode cX5_quickest 36 = .ok (.iload_n 1, 1) := by decide +kernel
theorem dX5_quickest_37 : decode cX5_quickest 37 = .ok (.ishr, 1) := by decide +kernel
theorem dX5_quickest_38 : decode cX5_quickest 38 = .ok (.iconst 1, 1) := by decide +kernel
theorem dX5_quickest_39 : decode cX5_quickest 39 = .ok (.iand, 1) := by decide +kernel
theorem dX5_quickest_40 : decode cX5_quickest 40 = .ok (.ifCond .eq 36, 3) := by decide +kernel
theorem dX5_quickest_43 : decode cX5_quickest 43 = .ok (.aload_n 0, 1) := by decide +kernel
theorem dX5_quickest_44 : decode cX5_quickest 44 = .ok (.getfield 29, 3) := by decide +kernel
theorem dX5_quickest_47 : decode cX5_quickest 47 = .ok (.iload_n 1, 1) := by decide +kernel
theorem dX5_quickest_48 : decode cX5_quickest 48 = .ok (.bipush 8, 2) := by decide +kernel
theorem dX5_quickest_50 : decode cX5_quickest 50 = .ok (.imul, 1) := by decide +kernel
theorem dX5_quickest_51 : decode cX5_quickest 51 = .ok (.iload 5, 2) := by decide +kernel
theorem dX5_quickest_53 : decode cX5_quickest 53 = .ok (.iadd, 1) := by decide +kernel
theorem dX5_quickest_54 : decode cX5_quickest 54 = .ok (.iaload, 1) := by decide +kernel
theorem dX5_quickest_55 : decode cX5_quickest 55 = .ok (.istore 6, 2) := by decide +kernel
theorem dX5_quickest_57 : decode cX5_quickest 57 = .ok (.iload_n 3, 1) := by decide +kernel
theorem dX5_quickest_58 : decode cX5_quickest 58 = .ok (.iconst (-1), 1) := by decide +kernel
theorem dX5_quickest_59 : decode cX5_quickest 59 = .ok (.if_icmp .eq 10, 3) := by decide +kernel
theorem dX5_quickest_62 : decode cX5_quickest 62 = .ok (.iload 6, 2) := by decide +kernel
theorem dX5_quickest_64 : decode cX5_quickest 64 = .ok (.iload 4, 2) := by decide +kernel
theorem dX5_quickest_66 : decode cX5_quickest 66 = .ok (.if_icmp .ge 10, 3) := by decide +kernel
theorem dX5_quickest_69 : decode cX5_quickest 69 = .ok (.iload 5, 2) := by decide +kernel
theorem dX5_quickest_71 : decode cX5_quickest 71 = .ok (.istore_n 3, 1) := by decide +kernel
theorem dX5_quickest_72 : decode cX5_quickest 72 = .ok (.iload 6, 2) := by decide +kernel
theorem dX5_quickest_74 : decode cX5_quickest 74 = .ok (.istore 4, 2) := by decide +kernel
theorem dX5_quickest_76 : decode cX5_quickest 76 = .ok (.iinc 5 1, 3) := by decide +kernel
theorem dX5_quickest_79 : decode cX5_quickest 79 = .ok (.goto (-71), 3) := by decide +kernel
theorem dX5_quickest_82 : decode cX5_quickest 82 = .ok (.iload_n 3, 1) := by decide +kernel
theorem dX5_quickest_83 : decode cX5_quickest 83 = .ok (.ireturn, 1) := by decide +kernel
theorem dX3_downsSeconds_0 : decode cX3_downsSeconds 0 = .ok (.iconst 1, 1) := by decide +kernel
theorem dX3_downsSeconds_1 : decode cX3_downsSeconds 1 = .ok (.aload_n 0, 1) := by decide +kernel
theorem dX3_downsSeconds_2 : decode cX3_downsSeconds 2 = .ok (.getfield 30, 3) := by decide +kernel
theorem dX3_downsSeconds_5 : decode cX3_downsSeconds 5 = .ok (.iconst 4, 1) := by decide +kernel
theorem dX3_downsSeconds_6 : decode cX3_downsSeconds 6 = .ok (.iaload, 1) := by decide +kernel
theorem dX3_downsSeconds_7 : decode cX3_downsSeconds 7 = .ok (.invokestatic 86, 3) := by decide +kernel
theorem dX3_downsSeconds_10 : decode cX3_downsSeconds 10 = .ok (.istore_n 3, 1) := by decide +kernel
theorem dX3_downsSeconds_11 : decode cX3_downsSeconds 11 = .ok (.iload_n 2, 1) := by decide +kernel
theorem dX3_downsSeconds_12 : decode cX3_downsSeconds 12 = .ok (.iload_n 3, 1) := by decide +kernel
theorem dX3_downsSeconds_13 : decode cX3_downsSeconds 13 = .ok (.iadd, 1) := by decide +kernel
theorem dX3_downsSeconds_14 : decode cX3_downsSeconds 14 = .ok (.iconst 1, 1) := by decide +kernel
theorem dX3_downsSeconds_15 : decode cX3_downsSeconds 15 = .ok (.isub, 1) := by decide +kernel
theorem dX3_downsSeconds_16 : decode cX3_downsSeconds 16 = .ok (.iload_n 3, 1) := by decide +kernel
theorem dX3_downsSeconds_17 : decode cX3_downsSeconds 17 = .ok (.idiv, 1) := by decide +kernel
theorem dX3_downsSeconds_18 : decode cX3_downsSeconds 18 = .ok (.aload_n 0, 1) := by decide +kernel
theorem dX3_downsSeconds_19 : decode cX3_downsSeconds 19 = .ok (.iload_n 1, 1) := by decide +kernel
theorem dX3_downsSeconds_20 : decode cX3_downsSeconds 20 = .ok (.invokevirtual 105, 3) := by decide +kernel
theorem dX3_downsSeconds_23 : decode cX3_downsSeconds 23 = .ok (.imul, 1) := by decide +kernel
theorem dX3_downsSeconds_24 : decode cX3_downsSeconds 24 = .ok (.ireturn, 1) := by decide +kernel
theorem dX5_workSeconds_0 : decode cX5_workSeconds 0 = .ok (.iconst 0, 1) := by decide +kernel
theorem dX5_workSeconds_1 : decode cX5_workSeconds 1 = .ok (.istore_n 2, 1) := by decide +kernel
theorem dX5_workSeconds_2 : decode cX5_workSeconds 2 = .ok (.iload_n 2, 1) := by decide +kernel
theorem dX5_workSeconds_3 : decode cX5_workSeconds 3 = .ok (.bipush 8, 2) := by decide +kernel
theorem dX5_workSeconds_5 : decode cX5_workSeconds 5 = .ok (.if_icmp .ge 16, 3) := by decide +kernel
theorem dX5_workSeconds_8 : decode cX5_workSeconds 8 = .ok (.aload_n 0, 1) := by decide +kernel
theorem dX5_workSeconds_9 : decode cX5_workSeconds 9 = .ok (.getfield 32, 3) := by decide +kernel
theorem dX5_workSeconds_12 : decode cX5_workSeconds 12 = .ok (.iload_n 2, 1) := by decide +kernel
theorem dX5_workSeconds_13 : decode cX5_workSeconds 13 = .ok (.iconst 0, 1) := by decide +kernel
theorem dX5_workSeconds_14 : decode cX5_workSeconds 14 = .ok (.iastore, 1) := by decide +kernel
theorem dX5_workSeconds_15 : decode cX5_workSeconds 15 = .ok (.iinc 2 1, 3) := by decide +kernel
theorem dX5_workSeconds_18 : decode cX5_workSeconds 18 = .ok (.goto (-16), 3) := by decide +kernel
theorem dX5_workSeconds_21 : decode cX5_workSeconds 21 = .ok (.aload_n 0, 1) := by decide +kernel
theorem dX5_workSeconds_22 : decode cX5_workSeconds 22 = .ok (.iconst 0, 1) := by decide +kernel
theorem dX5_workSeconds_23 : decode cX5_workSeconds 23 = .ok (.putfield 107, 3) := by decide +kernel
theorem dX5_workSeconds_26 : decode cX5_workSeconds 26 = .ok (.iconst 0, 1) := by decide +kernel
theorem dX5_workSeconds_27 : decode cX5_workSeconds 27 = .ok (.istore_n 2, 1) := by decide +kernel
theorem dX5_workSeconds_28 : decode cX5_workSeconds 28 = .ok (.iload_n 2, 1) := by decide +kernel
theorem dX5_workSeconds_29 : decode cX5_workSeconds 29 = .ok (.aload_n 0, 1) := by decide +kernel
theorem dX5_workSeconds_30 : decode cX5_workSeconds 30 = .ok (.getfield 24, 3) := by decide +kernel
theorem dX5_workSeconds_33 : decode cX5_workSeconds 33 = .ok (.getfield 97, 3) := by decide +kernel
theorem dX5_workSeconds_36 : decode cX5_workSeconds 36 = .ok (.if_icmp .ge 66, 3) := by decide +kernel
theorem dX5_workSeconds_39 : decode cX5_workSeconds 39 = .ok (.aload_n 0, 1) := by decide +kernel
theorem dX5_workSeconds_40 : decode cX5_workSeconds 40 = .ok (.getfield 84, 3) := by decide +kernel
theorem dX5_workSeconds_43 : decode cX5_workSeconds 43 = .ok (.iload_n 2, 1) := by decide +kernel
theorem dX5_workSeconds_44 : decode cX5_workSeconds 44 = .ok (.ishr, 1) := by decide +kernel
theorem dX5_workSeconds_45 : decode cX5_workSeconds 45 = .ok (.iconst 1, 1) := by decide +kernel
theorem dX5_workSeconds_46 : decode cX5_workSeconds 46 = .ok (.iand, 1) := by decide +kernel
theorem dX5_workSeconds_47 : decode cX5_workSeconds 47 = .ok (.ifCond .eq 12, 3) := by decide +kernel
theorem dX5_workSeconds_50 : decode cX5_workSeconds 50 = .ok (.aload_n 0, 1) := by decide +kernel
theorem dX5_workSeconds_51 : decode cX5_workSeconds 51 = .ok (.iload_n 2, 1) := by decide +kernel
theorem dX5_workSeconds_52 : decode cX5_workSeconds 52 = .ok (.iload_n 1, 1) := by decide +kernel
theorem dX5_workSeconds_53 : decode cX5_workSeconds 53 = .ok (.invokevirtual 110, 3) := by decide +kernel
theorem dX5_workSeconds_56 : decode cX5_workSeconds 56 = .ok (.goto 4, 3) := by decide +kernel
theorem dX5_workSeconds_59 : decode cX5_workSeconds 59 = .ok (.iconst (-1), 1) := by decide +kernel
theorem dX5_workSeconds_60 : decode cX5_workSeconds 60 = .ok (.istore_n 3, 1) := by decide +kernel
theorem dX5_workSeconds_61 : decode cX5_workSeconds 61 = .ok (.iload_n 3, 1) := by decide +kernel
theorem dX5_workSeconds_62 : decode cX5_workSeconds 62 = .ok (.iconst (-1), 1) := by decide +kernel
theorem dX5_workSeconds_63 : decode cX5_workSeconds 63 = .ok (.if_icmp .eq 33, 3) := by decide +kernel
theorem dX5_workSeconds_66 : decode cX5_workSeconds 66 = .ok (.aload_n 0, 1) := by decide +kernel
theorem dX5_workSeconds_67 : decode cX5_workSeconds 67 = .ok (.dup, 1) := by decide +kernel
theorem dX5_workSeconds_68 : decode cX5_workSeconds 68 = .ok (.getfield 107, 3) := by decide +kernel
theorem dX5_workSeconds_71 : decode cX5_workSeconds 71 = .ok (.aload_n 0, 1) := by decide +kernel
theorem dX5_workSeconds_72 : decode cX5_workSeconds 72 = .ok (.getfield 29, 3) := by decide +kernel
theorem dX5_workSeconds_75 : decode cX5_workSeconds 75 = .ok (.iload_n 2, 1) := by decide +kernel
theorem dX5_workSeconds_76 : decode cX5_workSeconds 76 = .ok (.bipush 8, 2) := by decide +kernel
theorem dX5_workSeconds_78 : decode cX5_workSeconds 78 = .ok (.imul, 1) := by decide +kernel
theorem dX5_workSeconds_79 : decode cX5_workSeconds 79 = .ok (.iload_n 3, 1) := by decide +kernel
theorem dX5_workSeconds_80 : decode cX5_workSeconds 80 = .ok (.iadd, 1) := by decide +kernel
theorem dX5_workSeconds_81 : decode cX5_workSeconds 81 = .ok (.iaload, 1) := by decide +kernel
theorem dX5_workSeconds_82 : decode cX5_workSeconds 82 = .ok (.iadd, 1) := by decide +kernel
theorem dX5_workSeconds_83 : decode cX5_workSeconds 83 = .ok (.putfield 107, 3) := by decide +kernel
theorem dX5_workSeconds_86 : decode cX5_workSeconds 86 = .ok (.aload_n 0, 1) := by decide +kernel
theorem dX5_workSeconds_87 : decode cX5_workSeconds 87 = .ok (.getfield 32, 3) := by decide +kernel
theorem dX5_workSeconds_90 : decode cX5_workSeconds 90 = .ok (.iload_n 3, 1) := by decide +kernel
theorem dX5_workSeconds_91 : decode cX5_workSeconds 91 = .ok (.dup2, 1) := by decide +kernel
theorem dX5_workSeconds_92 : decode cX5_workSeconds 92 = .ok (.iaload, 1) := by decide +kernel
theorem dX5_workSeconds_93 : decode cX5_workSeconds 93 = .ok (.iconst 1, 1) := by decide +kernel
theorem dX5_workSeconds_94 : decode cX5_workSeconds 94 = .ok (.iadd, 1) := by decide +kernel
theorem dX5_workSeconds_95 : decode cX5_workSeconds 95 = .ok (.iastore, 1) := by decide +kernel
theorem dX5_workSeconds_96 : decode cX5_workSeconds 96 = .ok (.iinc 2 1, 3) := by decide +kernel
theorem dX5_workSeconds_99 : decode cX5_workSeconds 99 = .ok (.goto (-71), 3) := by decide +kernel
theorem dX5_workSeconds_102 : decode cX5_workSeconds 102 = .ok (.aload_n 0, 1) := by decide +kernel
theorem dX5_workSeconds_103 : decode cX5_workSeconds 103 = .ok (.iconst 0, 1) := by decide +kernel
theorem dX5_workSeconds_104 : decode cX5_workSeconds 104 = .ok (.putfield 113, 3) := by decide +kernel
theorem dX5_workSeconds_107 : decode cX5_workSeconds 107 = .ok (.iconst 0, 1) := by decide +kernel
theorem dX5_workSeconds_108 : decode cX5_workSeconds 108 = .ok (.istore_n 2, 1) := by decide +kernel
theorem dX5_workSeconds_109 : decode cX5_workSeconds 109 = .ok (.iload_n 2, 1) := by decide +kernel
theorem dX5_workSeconds_110 : decode cX5_workSeconds 110 = .ok (.aload_n 0, 1) := by decide +kernel
theorem dX5_workSeconds_111 : decode cX5_workSeconds 111 = .ok (.getfield 24, 3) := by decide +kernel
theorem dX5_workSeconds_114 : decode cX5_workSeconds 114 = .ok (.getfield 64, 3) := by decide +kernel
theorem dX5_workSeconds_117 : decode cX5_workSeconds 117 = .ok (.if_icmp .ge 32, 3) := by decide +kernel
theorem dX5_workSeconds_120 : decode cX5_workSeconds 120 = .ok (.aload_n 0, 1) := by decide +kernel
theorem dX5_workSeconds_121 : decode cX5_workSeconds 121 = .ok (.dup, 1) := by decide +kernel
theorem dX5_workSeconds_122 : decode cX5_workSeconds 122 = .ok (.getfield 113, 3) := by decide +kernel
theorem dX5_workSeconds_125 : decode cX5_workSeconds 125 = .ok (.aload_n 0, 1) := by decide +kernel
theorem dX5_workSeconds_126 : decode cX5_workSeconds 126 = .ok (.getfield 24, 3) := by decide +kernel
theorem dX5_workSeconds_129 : decode cX5_workSeconds 129 = .ok (.iload_n 2, 1) := by decide +kernel
theorem dX5_workSeconds_130 : decode cX5_workSeconds 130 = .ok (.aload_n 0, 1) := by decide +kernel
theorem dX5_workSeconds_131 : decode cX5_workSeconds 131 = .ok (.getfield 32, 3) := by decide +kernel
theorem dX5_workSeconds_134 : decode cX5_workSeconds 134 = .ok (.iload_n 2, 1) := by decide +kernel
theorem dX5_workSeconds_135 : decode cX5_workSeconds 135 = .ok (.iaload, 1) := by decide +kernel
theorem dX5_workSeconds_136 : decode cX5_workSeconds 136 = .ok (.invokevirtual 116, 3) := by decide +kernel
theorem dX5_workSeconds_139 : decode cX5_workSeconds 139 = .ok (.iadd, 1) := by decide +kernel
theorem dX5_workSeconds_140 : decode cX5_workSeconds 140 = .ok (.putfield 113, 3) := by decide +kernel
theorem dX5_workSeconds_143 : decode cX5_workSeconds 143 = .ok (.iinc 2 1, 3) := by decide +kernel
theorem dX5_workSeconds_146 : decode cX5_workSeconds 146 = .ok (.goto (-37), 3) := by decide +kernel
theorem dX5_workSeconds_149 : decode cX5_workSeconds 149 = .ok (.aload_n 0, 1) := by decide +kernel
theorem dX5_workSeconds_150 : decode cX5_workSeconds 150 = .ok (.aload_n 0, 1) := by decide +kernel
theorem dX5_workSeconds_151 : decode cX5_workSeconds 151 = .ok (.getfield 24, 3) := by decide +kernel
theorem dX5_workSeconds_154 : decode cX5_workSeconds 154 = .ok (.aload_n 0, 1) := by decide +kernel
theorem dX5_workSeconds_155 : decode cX5_workSeconds 155 = .ok (.getfield 14, 3) := by decide +kernel
theorem dX5_workSeconds_158 : decode cX5_workSeconds 158 = .ok (.getfield 41, 3) := by decide +kernel
theorem dX5_workSeconds_161 : decode cX5_workSeconds 161 = .ok (.getfield 119, 3) := by decide +kernel
theorem dX5_workSeconds_164 : decode cX5_workSeconds 164 = .ok (.aload_n 0, 1) := by decide +kernel
theorem dX5_workSeconds_165 : decode cX5_workSeconds 165 = .ok (.getfield 14, 3) := by decide +kernel
theorem dX5_workSeconds_168 : decode cX5_workSeconds 168 = .ok (.iload_n 1, 1) := by decide +kernel
theorem dX5_workSeconds_169 : decode cX5_workSeconds 169 = .ok (.invokevirtual 122, 3) := by decide +kernel
theorem dX5_workSeconds_172 : decode cX5_workSeconds 172 = .ok (.invokevirtual 125, 3) := by decide +kernel
theorem dX5_workSeconds_175 : decode cX5_workSeconds 175 = .ok (.putfield 128, 3) := by decide +kernel
theorem dX5_workSeconds_178 : decode cX5_workSeconds 178 = .ok (.aload_n 0, 1) := by decide +kernel
theorem dX5_workSeconds_179 : decode cX5_workSeconds 179 = .ok (.getfield 128, 3) := by decide +kernel
theorem dX5_workSeconds_182 : decode cX5_workSeconds 182 = .ok (.aload_n 0, 1) := by decide +kernel
theorem dX5_workSeconds_183 : decode cX5_workSeconds 183 = .ok (.getfield 107, 3) := by decide +kernel
theorem dX5_workSeconds_186 : decode cX5_workSeconds 186 = .ok (.iadd, 1) := by decide +kernel
theorem dX5_workSeconds_187 : decode cX5_workSeconds 187 = .ok (.aload_n 0, 1) := by decide +kernel
theorem dX5_workSeconds_188 : decode cX5_workSeconds 188 = .ok (.getfield 113, 3) := by decide +kernel
theorem dX5_workSeconds_191 : decode cX5_workSeconds 191 = .ok (.iadd, 1) := by decide +kernel
theorem dX5_workSeconds_192 : decode cX5_workSeconds 192 = .ok (.ireturn, 1) := by decide +kernel
theorem dX9_tell___0 : decode cX9_tell__ 0 = .ok (.aload_n 0, 1) := by decide +kernel
theorem dX9_tell___1 : decode cX9_tell__ 1 = .ok (.iload_n 1, 1) := by decide +kernel
theorem dX9_tell___2 : decode cX9_tell__ 2 = .ok (.iload_n 2, 1) := by decide +kernel
theorem dX9_tell___3 : decode cX9_tell__ 3 = .ok (.invokevirtual 234, 3) := by decide +kernel
theorem dX9_tell___6 : decode cX9_tell__ 6 = .ok (.aload_n 0, 1) := by decide +kernel
theorem dX9_tell___7 : decode cX9_tell__ 7 = .ok (.getfield 50, 3) := by decide +kernel
theorem dX9_tell___10 : decode cX9_tell__ 10 = .ok (.iload_n 3, 1) := by decide +kernel
theorem dX9_tell___11 : decode cX9_tell__ 11 = .ok (.invokevirtual 318, 3) := by decide +kernel
theorem dX9_tell___14 : decode cX9_tell__ 14 = .ok (.return_, 1) := by decide +kernel
theorem dX9_work_0 : decode cX9_work 0 = .ok (.aload_n 0, 1) := by decide +kernel
theorem dX9_work_1 : decode cX9_work 1 = .ok (.getfield 34, 3) := by decide +kernel
theorem dX9_work_4 : decode cX9_work 4 = .ok (.iload_n 1, 1) := by decide +kernel
theorem dX9_work_5 : decode cX9_work 5 = .ok (.invokevirtual 301, 3) := by decide +kernel
theorem dX9_work_8 : decode cX9_work 8 = .ok (.ifCond .ne 5, 3) := by decide +kernel
theorem dX9_work_11 : decode cX9_work 11 = .ok (.iconst (-1), 1) := by decide +kernel
theorem dX9_work_12 : decode cX9_work 12 = .ok (.ireturn, 1) := by decide +kernel
theorem dX9_work_13 : decode cX9_work 13 = .ok (.aload_n 0, 1) := by decide +kernel
theorem dX9_work_14 : decode cX9_work 14 = .ok (.getfield 19, 3) := by decide +kernel
theorem dX9_work_17 : decode cX9_work 17 = .ok (.invokevirtual 265, 3) := by decide +kernel
theorem dX9_work_20 : decode cX9_work 20 = .ok (.aload_n 0, 1) := by decide +kernel
theorem dX9_work_21 : decode cX9_work 21 = .ok (.getfield 19, 3) := by decide +kernel
theorem dX9_work_24 : decode cX9_work 24 = .ok (.invokevirtual 323, 3) := by decide +kernel
theorem dX9_work_27 : decode cX9_work 27 = .ok (.aload_n 0, 1) := by decide +kernel
theorem dX9_work_28 : decode cX9_work 28 = .ok (.getfield 19, 3) := by decide +kernel
theorem dX9_work_31 : decode cX9_work 31 = .ok (.iload_n 1, 1) := by decide +kernel
theorem dX9_work_32 : decode cX9_work 32 = .ok (.invokevirtual 326, 3) := by decide +kernel
theorem dX9_work_35 : decode cX9_work 35 = .ok (.istore_n 2, 1) := by decide +kernel
theorem dX9_work_36 : decode cX9_work 36 = .ok (.aload_n 0, 1) := by decide +kernel
theorem dX9_work_37 : decode cX9_work 37 = .ok (.aload_n 0, 1) := by decide +kernel
theorem dX9_work_38 : decode cX9_work 38 = .ok (.getfield 19, 3) := by decide +kernel
theorem dX9_work_41 : decode cX9_work 41 = .ok (.getfield 329, 3) := by decide +kernel
theorem dX9_work_44 : decode cX9_work 44 = .ok (.aload_n 0, 1) := by decide +kernel
theorem dX9_work_45 : decode cX9_work 45 = .ok (.getfield 19, 3) := by decide +kernel
theorem dX9_work_48 : decode cX9_work 48 = .ok (.getfield 332, 3) := by decide +kernel
theorem dX9_work_51 : decode cX9_work 51 = .ok (.aload_n 0, 1) := by decide +kernel
theorem dX9_work_52 : decode cX9_work 52 = .ok (.getfield 19, 3) := by decide +kernel
theorem dX9_work_55 : decode cX9_work 55 = .ok (.getfield 335, 3) := by decide +kernel
theorem dX9_work_58 : decode cX9_work 58 = .ok (.invokevirtual 338, 3) := by decide +kernel
theorem dX9_work_61 : decode cX9_work 61 = .ok (.iload_n 2, 1) := by decide +kernel
theorem dX9_work_62 : decode cX9_work 62 = .ok (.ireturn, 1) := by decide +kernel
theorem dX9_soonest_0 : decode cX9_soonest 0 = .ok (.aload_n 0, 1) := by decide +kernel
theorem dX9_soonest_1 : decode cX9_soonest 1 = .ok (.getfield 19, 3) := by decide +kernel
theorem dX9_soonest_4 : decode cX9_soonest 4 = .ok (.invokevirtual 265, 3) := by decide +kernel
theorem dX9_soonest_7 : decode cX9_soonest 7 = .ok (.aload_n 0, 1) := by decide +kernel
theorem dX9_soonest_8 : decode cX9_soonest 8 = .ok (.getfield 19, 3) := by decide +kernel
theorem dX9_soonest_11 : decode cX9_soonest 11 = .ok (.invokevirtual 323, 3) := by decide +kernel
theorem dX9_soonest_14 : decode cX9_soonest 14 = .ok (.aload_n 0, 1) := by decide +kernel
theorem dX9_soonest_15 : decode cX9_soonest 15 = .ok (.getfield 34, 3) := by decide +kernel
theorem dX9_soonest_18 : decode cX9_soonest 18 = .ok (.invokevirtual 277, 3) := by decide +kernel
theorem dX9_soonest_21 : decode cX9_soonest 21 = .ok (.istore_n 1, 1) := by decide +kernel
theorem dX9_soonest_22 : decode cX9_soonest 22 = .ok (.aload_n 0, 1) := by decide +kernel
theorem dX9_soonest_23 : decode cX9_soonest 23 = .ok (.getfield 19, 3) := by decide +kernel
theorem dX9_soonest_26 : decode cX9_soonest 26 = .ok (.iload_n 1, 1) := by decide +kernel
theorem dX9_soonest_27 : decode cX9_soonest 27 = .ok (.invokevirtual 326, 3) := by decide +kernel
theorem dX9_soonest_30 : decode cX9_soonest 30 = .ok (.istore_n 2, 1) := by decide +kernel
theorem dX9_soonest_31 : decode cX9_soonest 31 = .ok (.iconst 0, 1) := by decide +kernel
theorem dX9_soonest_32 : decode cX9_soonest 32 = .ok (.istore_n 3, 1) := by decide +kernel
theorem dX9_soonest_33 : decode cX9_soonest 33 = .ok (.iload_n 3, 1) := by decide +kernel
theorem dX9_soonest_34 : decode cX9_soonest 34 = .ok (.aload_n 0, 1) := by decide +kernel
theorem dX9_soonest_35 : decode cX9_soonest 35 = .ok (.getfield 34, 3) := by decide +kernel
theorem dX9_soonest_38 : decode cX9_soonest 38 = .ok (.invokevirtual 277, 3) := by decide +kernel
theorem dX9_soonest_41 : decode cX9_soonest 41 = .ok (.if_icmp .ge 65, 3) := by decide +kernel
theorem dX9_soonest_44 : decode cX9_soonest 44 = .ok (.aload_n 0, 1) := by decide +kernel
theorem dX9_soonest_45 : decode cX9_soonest 45 = .ok (.getfield 19, 3) := by decide +kernel
theorem dX9_soonest_48 : decode cX9_soonest 48 = .ok (.getfield 274, 3) := by decide +kernel
theorem dX9_soonest_51 : decode cX9_soonest 51 = .ok (.aload_n 0, 1) := by decide +kernel
theorem dX9_soonest_52 : decode cX9_soonest 52 = .ok (.getfield 19, 3) := by decide +kernel
theorem dX9_soonest_55 : decode cX9_soonest 55 = .ok (.iload_n 3, 1) := by decide +kernel
theorem dX9_soonest_56 : decode cX9_soonest 56 = .ok (.invokevirtual 286, 3) := by decide +kernel
theorem dX9_soonest_59 : decode cX9_soonest 59 = .ok (.iconst (-1), 1) := by decide +kernel
theorem dX9_soonest_60 : decode cX9_soonest 60 = .ok (.ixor, 1) := by decide +kernel
theorem dX9_soonest_61 : decode cX9_soonest 61 = .ok (.iand, 1) := by decide +kernel
theorem dX9_soonest_62 : decode cX9_soonest 62 = .ok (.ifCond .ne 38, 3) := by decide +kernel
theorem dX9_soonest_65 : decode cX9_soonest 65 = .ok (.aload_n 0, 1) := by decide +kernel
theorem dX9_soonest_66 : decode cX9_soonest 66 = .ok (.getfield 19, 3) := by decide +kernel
theorem dX9_soonest_69 : decode cX9_soonest 69 = .ok (.iload_n 3, 1) := by decide +kernel
theorem dX9_soonest_70 : decode cX9_soonest 70 = .ok (.invokevirtual 326, 3) := by decide +kernel
theorem dX9_soonest_73 : decode cX9_soonest 73 = .ok (.istore 4, 2) := by decide +kernel
theorem dX9_soonest_75 : decode cX9_soonest 75 = .ok (.iload 4, 2) := by decide +kernel
theorem dX9_soonest_77 : decode cX9_soonest 77 = .ok (.iload_n 2, 1) := by decide +kernel
theorem dX9_soonest_78 : decode cX9_soonest 78 = .ok (.if_icmp .lt 17, 3) := by decide +kernel
theorem dX9_soonest_81 : decode cX9_soonest 81 = .ok (.iload 4, 2) := by decide +kernel
theorem dX9_soonest_83 : decode cX9_soonest 83 = .ok (.iload_n 2, 1) := by decide +kernel
theorem dX9_soonest_84 : decode cX9_soonest 84 = .ok (.if_icmp .ne 16, 3) := by decide +kernel
theorem dX9_soonest_87 : decode cX9_soonest 87 = .ok (.iload_n 3, 1) := by decide +kernel
theorem dX9_soonest_88 : decode cX9_soonest 88 = .ok (.iload_n 1, 1) := by decide +kernel
theorem dX9_soonest_89 : decode cX9_soonest 89 = .ok (.invokestatic 297, 3) := by decide +kernel
theorem dX9_soonest_92 : decode cX9_soonest 92 = .ok (.ifCond .eq 8, 3) := by decide +kernel
theorem dX9_soonest_95 : decode cX9_soonest 95 = .ok (.iload_n 3, 1) := by decide +kernel
theorem dX9_soonest_96 : decode cX9_soonest 96 = .ok (.istore_n 1, 1) := by decide +kernel
theorem dX9_soonest_97 : decode cX9_soonest 97 = .ok (.iload 4, 2) := by decide +kernel
theorem dX9_soonest_99 : decode cX9_soonest 99 = .ok (.istore_n 2, 1) := by decide +kernel
theorem dX9_soonest_100 : decode cX9_soonest 100 = .ok (.iinc 3 1, 3) := by decide +kernel
theorem dX9_soonest_103 : decode cX9_soonest 103 = .ok (.goto (-70), 3) := by decide +kernel
theorem dX9_soonest_106 : decode cX9_soonest 106 = .ok (.aload_n 0, 1) := by decide +kernel
theorem dX9_soonest_107 : decode cX9_soonest 107 = .ok (.iload_n 1, 1) := by decide +kernel
theorem dX9_soonest_108 : decode cX9_soonest 108 = .ok (.invokevirtual 260, 3) := by decide +kernel
theorem dX9_soonest_111 : decode cX9_soonest 111 = .ok (.iload_n 2, 1) := by decide +kernel
theorem dX9_soonest_112 : decode cX9_soonest 112 = .ok (.ireturn, 1) := by decide +kernel
theorem dX9_pays_0 : decode cX9_pays 0 = .ok (.aload_n 0, 1) := by decide +kernel
theorem dX9_pays_1 : decode cX9_pays 1 = .ok (.getfield 34, 3) := by decide +kernel
theorem dX9_pays_4 : decode cX9_pays 4 = .ok (.iload_n 1, 1) := by decide +kernel
theorem dX9_pays_5 : decode cX9_pays 5 = .ok (.invokevirtual 150, 3) := by decide +kernel
theorem dX9_pays_8 : decode cX9_pays 8 = .ok (.ifCond .ne 5, 3) := by decide +kernel
theorem dX9_pays_11 : decode cX9_pays 11 = .ok (.iconst (-1), 1) := by decide +kernel
theorem dX9_pays_12 : decode cX9_pays 12 = .ok (.ireturn, 1) := by decide +kernel
theorem dX9_pays_13 : decode cX9_pays 13 = .ok (.aload_n 0, 1) := by decide +kernel
theorem dX9_pays_14 : decode cX9_pays 14 = .ok (.getfield 19, 3) := by decide +kernel
theorem dX9_pays_17 : decode cX9_pays 17 = .ok (.invokevirtual 265, 3) := by decide +kernel
theorem dX9_pays_20 : decode cX9_pays 20 = .ok (.aload_n 0, 1) := by decide +kernel
theorem dX9_pays_21 : decode cX9_pays 21 = .ok (.getfield 19, 3) := by decide +kernel
theorem dX9_pays_24 : decode cX9_pays 24 = .ok (.iload_n 1, 1) := by decide +kernel
theorem dX9_pays_25 : decode cX9_pays 25 = .ok (.invokevirtual 268, 3) := by decide +kernel
theorem dX9_pays_28 : decode cX9_pays 28 = .ok (.istore_n 2, 1) := by decide +kernel
theorem dX9_pays_29 : decode cX9_pays 29 = .ok (.aload_n 0, 1) := by decide +kernel
theorem dX9_pays_30 : decode cX9_pays 30 = .ok (.getfield 39, 3) := by decide +kernel
theorem dX9_pays_33 : decode cX9_pays 33 = .ok (.getfield 308, 3) := by decide +kernel
theorem dX9_pays_36 : decode cX9_pays 36 = .ok (.iload_n 1, 1) := by decide +kernel
theorem dX9_pays_37 : decode cX9_pays 37 = .ok (.if_icmp .ne 7, 3) := by decide +kernel
theorem dX9_pays_40 : decode cX9_pays 40 = .ok (.iconst 0, 1) := by decide +kernel
theorem dX9_pays_41 : decode cX9_pays 41 = .ok (.goto 18, 3) := by decide +kernel
theorem dX9_pays_44 : decode cX9_pays 44 = .ok (.aload_n 0, 1) := by decide +kernel
theorem dX9_pays_45 : decode cX9_pays 45 = .ok (.getfield 34, 3) := by decide +kernel
theorem dX9_pays_48 : decode cX9_pays 48 = .ok (.aload_n 0, 1) := by decide +kernel
theorem dX9_pays_49 : decode cX9_pays 49 = .ok (.getfield 39, 3) := by decide +kernel
theorem dX9_pays_52 : decode cX9_pays 52 = .ok (.getfield 308, 3) := by decide +kernel
theorem dX9_pays_55 : decode cX9_pays 55 = .ok (.iload_n 1, 1) := by decide +kernel
theorem dX9_pays_56 : decode cX9_pays 56 = .ok (.invokevirtual 320, 3) := by decide +kernel
theorem dX9_pays_59 : decode cX9_pays 59 = .ok (.istore_n 3, 1) := by decide +kernel
theorem dX9_pays_60 : decode cX9_pays 60 = .ok (.iconst 0, 1) := by decide +kernel
theorem dX9_pays_61 : decode cX9_pays 61 = .ok (.istore 4, 2) := by decide +kernel
theorem dX9_pays_63 : decode cX9_pays 63 = .ok (.iconst 0, 1) := by decide +kernel
theorem dX9_pays_64 : decode cX9_pays 64 = .ok (.istore 5, 2) := by decide +kernel
theorem dX9_pays_66 : decode cX9_pays 66 = .ok (.iload 5, 2) := by decide +kernel
theorem dX9_pays_68 : decode cX9_pays 68 = .ok (.aload_n 0, 1) := by decide +kernel
theorem dX9_pays_69 : decode cX9_pays 69 = .ok (.getfield 34, 3) := by decide +kernel
theorem dX9_pays_72 : decode cX9_pays 72 = .ok (.getfield 341, 3) := by decide +kernel
theorem dX9_pays_75 : decode cX9_pays 75 = .ok (.if_icmp .ge 35, 3) := by decide +kernel
theorem dX9_pays_78 : decode cX9_pays 78 = .ok (.iload_n 2, 1) := by decide +kernel
theorem dX9_pays_79 : decode cX9_pays 79 = .ok (.iload 5, 2) := by decide +kernel
theorem dX9_pays_81 : decode cX9_pays 81 = .ok (.ishr, 1) := by decide +kernel
theorem dX9_pays_82 : decode cX9_pays 82 = .ok (.iconst 1, 1) := by decide +kernel
theorem dX9_pays_83 : decode cX9_pays 83 = .ok (.iand, 1) := by decide +kernel
theorem dX9_pays_84 : decode cX9_pays 84 = .ok (.ifCond .eq 20, 3) := by decide +kernel
theorem dX9_pays_87 : decode cX9_pays 87 = .ok (.iload 4, 2) := by decide +kernel
theorem dX9_pays_89 : decode cX9_pays 89 = .ok (.aload_n 0, 1) := by decide +kernel
theorem dX9_pays_90 : decode cX9_pays 90 = .ok (.getfield 27, 3) := by decide +kernel
theorem dX9_pays_93 : decode cX9_pays 93 = .ok (.iload 5, 2) := by decide +kernel
theorem dX9_pays_95 : decode cX9_pays 95 = .ok (.iload_n 1, 1) := by decide +kernel
theorem dX9_pays_96 : decode cX9_pays 96 = .ok (.iconst 0, 1) := by decide +kernel
theorem dX9_pays_97 : decode cX9_pays 97 = .ok (.iconst 0, 1) := by decide +kernel
theorem dX9_pays_98 : decode cX9_pays 98 = .ok (.invokevirtual 262, 3) := by decide +kernel
theorem dX9_pays_101 : decode cX9_pays 101 = .ok (.iadd, 1) := by decide +kernel
theorem dX9_pays_102 : decode cX9_pays 102 = .ok (.istore 4, 2) := by decide +kernel
theorem dX9_pays_104 : decode cX9_pays 104 = .ok (.iinc 5 1, 3) := by decide +kernel
theorem dX9_pays_107 : decode cX9_pays 107 = .ok (.goto (-41), 3) := by decide +kernel
theorem dX9_pays_110 : decode cX9_pays 110 = .ok (.aload_n 0, 1) := by decide +kernel
theorem dX9_pays_111 : decode cX9_pays 111 = .ok (.iload_n 3, 1) := by decide +kernel
theorem dX9_pays_112 : decode cX9_pays 112 = .ok (.iload 4, 2) := by decide +kernel
theorem dX9_pays_114 : decode cX9_pays 114 = .ok (.aload_n 0, 1) := by decide +kernel
theorem dX9_pays_115 : decode cX9_pays 115 = .ok (.getfield 34, 3) := by decide +kernel
theorem dX9_pays_118 : decode cX9_pays 118 = .ok (.iload_n 1, 1) := by decide +kernel
theorem dX9_pays_119 : decode cX9_pays 119 = .ok (.iload_n 2, 1) := by decide +kernel
theorem dX9_pays_120 : decode cX9_pays 120 = .ok (.invokestatic 292, 3) := by decide +kernel
theorem dX9_pays_123 : decode cX9_pays 123 = .ok (.invokevirtual 344, 3) := by decide +kernel
theorem dX9_pays_126 : decode cX9_pays 126 = .ok (.invokevirtual 338, 3) := by decide +kernel
theorem dX9_pays_129 : decode cX9_pays 129 = .ok (.aload_n 0, 1) := by decide +kernel
theorem dX9_pays_130 : decode cX9_pays 130 = .ok (.getfield 27, 3) := by decide +kernel
theorem dX9_pays_133 : decode cX9_pays 133 = .ok (.iload_n 2, 1) := by decide +kernel
theorem dX9_pays_134 : decode cX9_pays 134 = .ok (.invokevirtual 257, 3) := by decide +kernel
theorem dX9_pays_137 : decode cX9_pays 137 = .ok (.ireturn, 1) := by decide +kernel
theorem dX9_trips_0 : decode cX9_trips 0 = .ok (.aload_n 0, 1) := by decide +kernel
theorem dX9_trips_1 : decode cX9_trips 1 = .ok (.getfield 34, 3) := by decide +kernel
theorem dX9_trips_4 : decode cX9_trips 4 = .ok (.iload_n 1, 1) := by decide +kernel
theorem dX9_trips_5 : decode cX9_trips 5 = .ok (.invokevirtual 150, 3) := by decide +kernel
theorem dX9_trips_8 : decode cX9_trips 8 = .ok (.ifCond .ne 5, 3) := by decide +kernel
