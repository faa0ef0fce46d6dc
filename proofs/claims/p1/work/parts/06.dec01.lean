theorem dX7_read_38 : decode cX7_read 38 = .ok (.if_icmp .eq 37, 3) := by decide +kernel
theorem dX7_read_41 : decode cX7_read 41 = .ok (.aload_n 0, 1) := by decide +kernel
theorem dX7_read_42 : decode cX7_read 42 = .ok (.getfield 50, 3) := by decide +kernel
theorem dX7_read_45 : decode cX7_read 45 = .ok (.ifCond .eq 14, 3) := by decide +kernel
theorem dX7_read_48 : decode cX7_read 48 = .ok (.aload_n 0, 1) := by decide +kernel
theorem dX7_read_49 : decode cX7_read 49 = .ok (.aload_n 1, 1) := by decide +kernel
theorem dX7_read_50 : decode cX7_read 50 = .ok (.invokevirtual 59, 3) := by decide +kernel
theorem dX7_read_53 : decode cX7_read 53 = .ok (.ifCond .eq 14, 3) := by decide +kernel
theorem dX7_read_56 : decode cX7_read 56 = .ok (.goto 13, 3) := by decide +kernel
theorem dX7_read_59 : decode cX7_read 59 = .ok (.aload_n 0, 1) := by decide +kernel
theorem dX7_read_60 : decode cX7_read 60 = .ok (.aload_n 1, 1) := by decide +kernel
theorem dX7_read_61 : decode cX7_read 61 = .ok (.invokevirtual 63, 3) := by decide +kernel
theorem dX7_read_64 : decode cX7_read 64 = .ok (.ifCond .ne 5, 3) := by decide +kernel
theorem dX7_read_67 : decode cX7_read 67 = .ok (.iconst 0, 1) := by decide +kernel
theorem dX7_read_68 : decode cX7_read 68 = .ok (.ireturn, 1) := by decide +kernel
theorem dX7_read_69 : decode cX7_read 69 = .ok (.iinc 2 1, 3) := by decide +kernel
theorem dX7_read_72 : decode cX7_read 72 = .ok (.goto (-45), 3) := by decide +kernel
theorem dX7_read_75 : decode cX7_read 75 = .ok (.aload_n 0, 1) := by decide +kernel
theorem dX7_read_76 : decode cX7_read 76 = .ok (.getfield 50, 3) := by decide +kernel
theorem dX7_read_79 : decode cX7_read 79 = .ok (.ifCond .ne 17, 3) := by decide +kernel
theorem dX7_read_82 : decode cX7_read 82 = .ok (.aload_n 0, 1) := by decide +kernel
theorem dX7_read_83 : decode cX7_read 83 = .ok (.getfield 44, 3) := by decide +kernel
theorem dX7_read_86 : decode cX7_read 86 = .ok (.ifCond .gt 10, 3) := by decide +kernel
theorem dX7_read_89 : decode cX7_read 89 = .ok (.aload_n 1, 1) := by decide +kernel
theorem dX7_read_90 : decode cX7_read 90 = .ok (.invokevirtual 66, 3) := by decide +kernel
theorem dX7_read_93 : decode cX7_read 93 = .ok (.ifCond .ne 5, 3) := by decide +kernel
theorem dX7_read_96 : decode cX7_read 96 = .ok (.iconst 0, 1) := by decide +kernel
theorem dX7_read_97 : decode cX7_read 97 = .ok (.ireturn, 1) := by decide +kernel
theorem dX7_read_98 : decode cX7_read 98 = .ok (.aload_n 0, 1) := by decide +kernel
theorem dX7_read_99 : decode cX7_read 99 = .ok (.iconst 1, 1) := by decide +kernel
theorem dX7_read_100 : decode cX7_read 100 = .ok (.invokevirtual 70, 3) := by decide +kernel
theorem dX7_read_103 : decode cX7_read 103 = .ok (.aload_n 0, 1) := by decide +kernel
theorem dX7_read_104 : decode cX7_read 104 = .ok (.getfield 29, 3) := by decide +kernel
theorem dX7_read_107 : decode cX7_read 107 = .ok (.astore_n 2, 1) := by decide +kernel
theorem dX7_read_108 : decode cX7_read 108 = .ok (.aload_n 0, 1) := by decide +kernel
theorem dX7_read_109 : decode cX7_read 109 = .ok (.aload_n 0, 1) := by decide +kernel
theorem dX7_read_110 : decode cX7_read 110 = .ok (.getfield 32, 3) := by decide +kernel
theorem dX7_read_113 : decode cX7_read 113 = .ok (.putfield 29, 3) := by decide +kernel
theorem dX7_read_116 : decode cX7_read 116 = .ok (.aload_n 0, 1) := by decide +kernel
theorem dX7_read_117 : decode cX7_read 117 = .ok (.aload_n 2, 1) := by decide +kernel
theorem dX7_read_118 : decode cX7_read 118 = .ok (.putfield 32, 3) := by decide +kernel
theorem dX7_read_121 : decode cX7_read 121 = .ok (.aload_n 0, 1) := by decide +kernel
theorem dX7_read_122 : decode cX7_read 122 = .ok (.aload_n 0, 1) := by decide +kernel
theorem dX7_read_123 : decode cX7_read 123 = .ok (.getfield 38, 3) := by decide +kernel
theorem dX7_read_126 : decode cX7_read 126 = .ok (.putfield 35, 3) := by decide +kernel
theorem dX7_read_129 : decode cX7_read 129 = .ok (.iconst 1, 1) := by decide +kernel
theorem dX7_read_130 : decode cX7_read 130 = .ok (.ireturn, 1) := by decide +kernel
theorem dX9_rule_0 : decode cX9_rule 0 = .ok (.aload_n 0, 1) := by decide +kernel
theorem dX9_rule_1 : decode cX9_rule 1 = .ok (.getfield 10, 3) := by decide +kernel
theorem dX9_rule_4 : decode cX9_rule 4 = .ok (.bipush 40, 2) := by decide +kernel
theorem dX9_rule_6 : decode cX9_rule 6 = .ok (.invokevirtual 73, 3) := by decide +kernel
theorem dX9_rule_9 : decode cX9_rule 9 = .ok (.iconst 0, 1) := by decide +kernel
theorem dX9_rule_10 : decode cX9_rule 10 = .ok (.istore_n 1, 1) := by decide +kernel
theorem dX9_rule_11 : decode cX9_rule 11 = .ok (.aload_n 0, 1) := by decide +kernel
theorem dX9_rule_12 : decode cX9_rule 12 = .ok (.getfield 10, 3) := by decide +kernel
theorem dX9_rule_15 : decode cX9_rule 15 = .ok (.getfield 77, 3) := by decide +kernel
theorem dX9_rule_18 : decode cX9_rule 18 = .ok (.ifCond .ne 16, 3) := by decide +kernel
theorem dX9_rule_21 : decode cX9_rule 21 = .ok (.aload_n 0, 1) := by decide +kernel
theorem dX9_rule_22 : decode cX9_rule 22 = .ok (.getfield 27, 3) := by decide +kernel
theorem dX9_rule_25 : decode cX9_rule 25 = .ok (.getfield 104, 3) := by decide +kernel
theorem dX9_rule_28 : decode cX9_rule 28 = .ok (.invokevirtual 108, 3) := by decide +kernel
theorem dX9_rule_31 : decode cX9_rule 31 = .ok (.goto 28, 3) := by decide +kernel
theorem dX9_rule_34 : decode cX9_rule 34 = .ok (.aload_n 0, 1) := by decide +kernel
theorem dX9_rule_35 : decode cX9_rule 35 = .ok (.getfield 27, 3) := by decide +kernel
theorem dX9_rule_38 : decode cX9_rule 38 = .ok (.getfield 104, 3) := by decide +kernel
theorem dX9_rule_41 : decode cX9_rule 41 = .ok (.aload_n 0, 1) := by decide +kernel
theorem dX9_rule_42 : decode cX9_rule 42 = .ok (.getfield 10, 3) := by decide +kernel
theorem dX9_rule_45 : decode cX9_rule 45 = .ok (.invokevirtual 113, 3) := by decide +kernel
theorem dX9_rule_48 : decode cX9_rule 48 = .ok (.ifCond .ne 11, 3) := by decide +kernel
theorem dX9_rule_51 : decode cX9_rule 51 = .ok (.aload_n 0, 1) := by decide +kernel
theorem dX9_rule_52 : decode cX9_rule 52 = .ok (.getfield 10, 3) := by decide +kernel
theorem dX9_rule_55 : decode cX9_rule 55 = .ok (.invokevirtual 91, 3) := by decide +kernel
theorem dX9_rule_58 : decode cX9_rule 58 = .ok (.istore_n 1, 1) := by decide +kernel
theorem dX9_rule_59 : decode cX9_rule 59 = .ok (.aload_n 0, 1) := by decide +kernel
theorem dX9_rule_60 : decode cX9_rule 60 = .ok (.getfield 10, 3) := by decide +kernel
theorem dX9_rule_63 : decode cX9_rule 63 = .ok (.invokevirtual 101, 3) := by decide +kernel
theorem dX9_rule_66 : decode cX9_rule 66 = .ok (.iload_n 1, 1) := by decide +kernel
theorem dX9_rule_67 : decode cX9_rule 67 = .ok (.ireturn, 1) := by decide +kernel
theorem dX3_hasFruit_0 : decode cX3_hasFruit 0 = .ok (.iload_n 1, 1) := by decide +kernel
theorem dX3_hasFruit_1 : decode cX3_hasFruit 1 = .ok (.ifCond .lt 15, 3) := by decide +kernel
theorem dX3_hasFruit_4 : decode cX3_hasFruit 4 = .ok (.iload_n 1, 1) := by decide +kernel
theorem dX3_hasFruit_5 : decode cX3_hasFruit 5 = .ok (.aload_n 0, 1) := by decide +kernel
theorem dX3_hasFruit_6 : decode cX3_hasFruit 6 = .ok (.getfield 33, 3) := by decide +kernel
theorem dX3_hasFruit_9 : decode cX3_hasFruit 9 = .ok (.if_icmp .ge 7, 3) := by decide +kernel
theorem dX3_hasFruit_12 : decode cX3_hasFruit 12 = .ok (.iconst 1, 1) := by decide +kernel
theorem dX3_hasFruit_13 : decode cX3_hasFruit 13 = .ok (.goto 4, 3) := by decide +kernel
theorem dX3_hasFruit_16 : decode cX3_hasFruit 16 = .ok (.iconst 0, 1) := by decide +kernel
theorem dX3_hasFruit_17 : decode cX3_hasFruit 17 = .ok (.ireturn, 1) := by decide +kernel
theorem dX3_allFruits_0 : decode cX3_allFruits 0 = .ok (.iconst 1, 1) := by decide +kernel
theorem dX3_allFruits_1 : decode cX3_allFruits 1 = .ok (.aload_n 0, 1) := by decide +kernel
theorem dX3_allFruits_2 : decode cX3_allFruits 2 = .ok (.getfield 33, 3) := by decide +kernel
theorem dX3_allFruits_5 : decode cX3_allFruits 5 = .ok (.ishl, 1) := by decide +kernel
theorem dX3_allFruits_6 : decode cX3_allFruits 6 = .ok (.iconst 1, 1) := by decide +kernel
theorem dX3_allFruits_7 : decode cX3_allFruits 7 = .ok (.isub, 1) := by decide +kernel
theorem dX3_allFruits_8 : decode cX3_allFruits 8 = .ok (.ireturn, 1) := by decide +kernel
theorem dX0_hanging_0 : decode cX0_hanging 0 = .ok (.aload_n 0, 1) := by decide +kernel
theorem dX0_hanging_1 : decode cX0_hanging 1 = .ok (.getfield 12, 3) := by decide +kernel
theorem dX0_hanging_4 : decode cX0_hanging 4 = .ok (.invokevirtual 32, 3) := by decide +kernel
theorem dX0_hanging_7 : decode cX0_hanging 7 = .ok (.aload_n 0, 1) := by decide +kernel
theorem dX0_hanging_8 : decode cX0_hanging 8 = .ok (.getfield 21, 3) := by decide +kernel
theorem dX0_hanging_11 : decode cX0_hanging 11 = .ok (.getfield 36, 3) := by decide +kernel
theorem dX0_hanging_14 : decode cX0_hanging 14 = .ok (.aload_n 0, 1) := by decide +kernel
theorem dX0_hanging_15 : decode cX0_hanging 15 = .ok (.getfield 21, 3) := by decide +kernel
theorem dX0_hanging_18 : decode cX0_hanging 18 = .ok (.getfield 40, 3) := by decide +kernel
theorem dX0_hanging_21 : decode cX0_hanging 21 = .ok (.ior, 1) := by decide +kernel
theorem dX0_hanging_22 : decode cX0_hanging 22 = .ok (.aload_n 0, 1) := by decide +kernel
theorem dX0_hanging_23 : decode cX0_hanging 23 = .ok (.getfield 21, 3) := by decide +kernel
theorem dX0_hanging_26 : decode cX0_hanging 26 = .ok (.getfield 43, 3) := by decide +kernel
theorem dX0_hanging_29 : decode cX0_hanging 29 = .ok (.ior, 1) := by decide +kernel
theorem dX0_hanging_30 : decode cX0_hanging 30 = .ok (.iconst (-1), 1) := by decide +kernel
theorem dX0_hanging_31 : decode cX0_hanging 31 = .ok (.ixor, 1) := by decide +kernel
theorem dX0_hanging_32 : decode cX0_hanging 32 = .ok (.iand, 1) := by decide +kernel
theorem dX0_hanging_33 : decode cX0_hanging 33 = .ok (.ireturn, 1) := by decide +kernel
theorem dX3_lowerThan_0 : decode cX3_lowerThan 0 = .ok (.iload_n 2, 1) := by decide +kernel
theorem dX3_lowerThan_1 : decode cX3_lowerThan 1 = .ok (.iload_n 1, 1) := by decide +kernel
theorem dX3_lowerThan_2 : decode cX3_lowerThan 2 = .ok (.ishr, 1) := by decide +kernel
theorem dX3_lowerThan_3 : decode cX3_lowerThan 3 = .ok (.iconst 1, 1) := by decide +kernel
theorem dX3_lowerThan_4 : decode cX3_lowerThan 4 = .ok (.iand, 1) := by decide +kernel
theorem dX3_lowerThan_5 : decode cX3_lowerThan 5 = .ok (.ifCond .ne 5, 3) := by decide +kernel
theorem dX3_lowerThan_8 : decode cX3_lowerThan 8 = .ok (.iconst 0, 1) := by decide +kernel
theorem dX3_lowerThan_9 : decode cX3_lowerThan 9 = .ok (.ireturn, 1) := by decide +kernel
theorem dX3_lowerThan_10 : decode cX3_lowerThan 10 = .ok (.iconst 0, 1) := by decide +kernel
theorem dX3_lowerThan_11 : decode cX3_lowerThan 11 = .ok (.istore_n 3, 1) := by decide +kernel
theorem dX3_lowerThan_12 : decode cX3_lowerThan 12 = .ok (.iconst 0, 1) := by decide +kernel
theorem dX3_lowerThan_13 : decode cX3_lowerThan 13 = .ok (.istore 4, 2) := by decide +kernel
theorem dX3_lowerThan_15 : decode cX3_lowerThan 15 = .ok (.iload 4, 2) := by decide +kernel
theorem dX3_lowerThan_17 : decode cX3_lowerThan 17 = .ok (.aload_n 0, 1) := by decide +kernel
theorem dX3_lowerThan_18 : decode cX3_lowerThan 18 = .ok (.getfield 33, 3) := by decide +kernel
theorem dX3_lowerThan_21 : decode cX3_lowerThan 21 = .ok (.if_icmp .ge 74, 3) := by decide +kernel
theorem dX3_lowerThan_24 : decode cX3_lowerThan 24 = .ok (.aload_n 0, 1) := by decide +kernel
theorem dX3_lowerThan_25 : decode cX3_lowerThan 25 = .ok (.getfield 9, 3) := by decide +kernel
theorem dX3_lowerThan_28 : decode cX3_lowerThan 28 = .ok (.iload 4, 2) := by decide +kernel
theorem dX3_lowerThan_30 : decode cX3_lowerThan 30 = .ok (.iaload, 1) := by decide +kernel
theorem dX3_lowerThan_31 : decode cX3_lowerThan 31 = .ok (.aload_n 0, 1) := by decide +kernel
theorem dX3_lowerThan_32 : decode cX3_lowerThan 32 = .ok (.getfield 9, 3) := by decide +kernel
theorem dX3_lowerThan_35 : decode cX3_lowerThan 35 = .ok (.iload_n 1, 1) := by decide +kernel
theorem dX3_lowerThan_36 : decode cX3_lowerThan 36 = .ok (.iaload, 1) := by decide +kernel
theorem dX3_lowerThan_37 : decode cX3_lowerThan 37 = .ok (.isub, 1) := by decide +kernel
theorem dX3_lowerThan_38 : decode cX3_lowerThan 38 = .ok (.invokestatic 89, 3) := by decide +kernel
theorem dX3_lowerThan_41 : decode cX3_lowerThan 41 = .ok (.iconst 1, 1) := by decide +kernel
theorem dX3_lowerThan_42 : decode cX3_lowerThan 42 = .ok (.if_icmp .gt 23, 3) := by decide +kernel
theorem dX3_lowerThan_45 : decode cX3_lowerThan 45 = .ok (.aload_n 0, 1) := by decide +kernel
theorem dX3_lowerThan_46 : decode cX3_lowerThan 46 = .ok (.getfield 15, 3) := by decide +kernel
theorem dX3_lowerThan_49 : decode cX3_lowerThan 49 = .ok (.iload 4, 2) := by decide +kernel
theorem dX3_lowerThan_51 : decode cX3_lowerThan 51 = .ok (.iaload, 1) := by decide +kernel
theorem dX3_lowerThan_52 : decode cX3_lowerThan 52 = .ok (.aload_n 0, 1) := by decide +kernel
theorem dX3_lowerThan_53 : decode cX3_lowerThan 53 = .ok (.getfield 15, 3) := by decide +kernel
theorem dX3_lowerThan_56 : decode cX3_lowerThan 56 = .ok (.iload_n 1, 1) := by decide +kernel
theorem dX3_lowerThan_57 : decode cX3_lowerThan 57 = .ok (.iaload, 1) := by decide +kernel
theorem dX3_lowerThan_58 : decode cX3_lowerThan 58 = .ok (.if_icmp .ge 7, 3) := by decide +kernel
theorem dX3_lowerThan_61 : decode cX3_lowerThan 61 = .ok (.iconst 1, 1) := by decide +kernel
theorem dX3_lowerThan_62 : decode cX3_lowerThan 62 = .ok (.goto 4, 3) := by decide +kernel
theorem dX3_lowerThan_65 : decode cX3_lowerThan 65 = .ok (.iconst 0, 1) := by decide +kernel
theorem dX3_lowerThan_66 : decode cX3_lowerThan 66 = .ok (.istore 5, 2) := by decide +kernel
theorem dX3_lowerThan_68 : decode cX3_lowerThan 68 = .ok (.iload 5, 2) := by decide +kernel
theorem dX3_lowerThan_70 : decode cX3_lowerThan 70 = .ok (.ifCond .eq 19, 3) := by decide +kernel
theorem dX3_lowerThan_73 : decode cX3_lowerThan 73 = .ok (.iload_n 2, 1) := by decide +kernel
theorem dX3_lowerThan_74 : decode cX3_lowerThan 74 = .ok (.iload 4, 2) := by decide +kernel
theorem dX3_lowerThan_76 : decode cX3_lowerThan 76 = .ok (.ishr, 1) := by decide +kernel
theorem dX3_lowerThan_77 : decode cX3_lowerThan 77 = .ok (.iconst 1, 1) := by decide +kernel
theorem dX3_lowerThan_78 : decode cX3_lowerThan 78 = .ok (.iand, 1) := by decide +kernel
theorem dX3_lowerThan_79 : decode cX3_lowerThan 79 = .ok (.ifCond .eq 10, 3) := by decide +kernel
theorem dX3_lowerThan_82 : decode cX3_lowerThan 82 = .ok (.iload_n 3, 1) := by decide +kernel
theorem dX3_lowerThan_83 : decode cX3_lowerThan 83 = .ok (.iconst 1, 1) := by decide +kernel
theorem dX3_lowerThan_84 : decode cX3_lowerThan 84 = .ok (.iload 4, 2) := by decide +kernel
theorem dX3_lowerThan_86 : decode cX3_lowerThan 86 = .ok (.ishl, 1) := by decide +kernel
theorem dX3_lowerThan_87 : decode cX3_lowerThan 87 = .ok (.ior, 1) := by decide +kernel
theorem dX3_lowerThan_88 : decode cX3_lowerThan 88 = .ok (.istore_n 3, 1) := by decide +kernel
theorem dX3_lowerThan_89 : decode cX3_lowerThan 89 = .ok (.iinc 4 1, 3) := by decide +kernel
theorem dX3_lowerThan_92 : decode cX3_lowerThan 92 = .ok (.goto (-77), 3) := by decide +kernel
theorem dX3_lowerThan_95 : decode cX3_lowerThan 95 = .ok (.iload_n 3, 1) := by decide +kernel
theorem dX3_lowerThan_96 : decode cX3_lowerThan 96 = .ok (.ireturn, 1) := by decide +kernel
theorem dX2_whereIs_0 : decode cX2_whereIs 0 = .ok (.aload_n 0, 1) := by decide +kernel
theorem dX2_whereIs_1 : decode cX2_whereIs 1 = .ok (.getfield 15, 3) := by decide +kernel
theorem dX2_whereIs_4 : decode cX2_whereIs 4 = .ok (.iload_n 1, 1) := by decide +kernel
theorem dX2_whereIs_5 : decode cX2_whereIs 5 = .ok (.ishr, 1) := by decide +kernel
theorem dX2_whereIs_6 : decode cX2_whereIs 6 = .ok (.iconst 1, 1) := by decide +kernel
theorem dX2_whereIs_7 : decode cX2_whereIs 7 = .ok (.iand, 1) := by decide +kernel
theorem dX2_whereIs_8 : decode cX2_whereIs 8 = .ok (.iconst 2, 1) := by decide +kernel
theorem dX2_whereIs_9 : decode cX2_whereIs 9 = .ok (.aload_n 0, 1) := by decide +kernel
theorem dX2_whereIs_10 : decode cX2_whereIs 10 = .ok (.getfield 18, 3) := by decide +kernel
theorem dX2_whereIs_13 : decode cX2_whereIs 13 = .ok (.iload_n 1, 1) := by decide +kernel
theorem dX2_whereIs_14 : decode cX2_whereIs 14 = .ok (.ishr, 1) := by decide +kernel
theorem dX2_whereIs_15 : decode cX2_whereIs 15 = .ok (.iconst 1, 1) := by decide +kernel
theorem dX2_whereIs_16 : decode cX2_whereIs 16 = .ok (.iand, 1) := by decide +kernel
theorem dX2_whereIs_17 : decode cX2_whereIs 17 = .ok (.imul, 1) := by decide +kernel
theorem dX2_whereIs_18 : decode cX2_whereIs 18 = .ok (.iadd, 1) := by decide +kernel
theorem dX2_whereIs_19 : decode cX2_whereIs 19 = .ok (.iconst 3, 1) := by decide +kernel
theorem dX2_whereIs_20 : decode cX2_whereIs 20 = .ok (.aload_n 0, 1) := by decide +kernel
theorem dX2_whereIs_21 : decode cX2_whereIs 21 = .ok (.getfield 21, 3) := by decide +kernel
theorem dX2_whereIs_24 : decode cX2_whereIs 24 = .ok (.iload_n 1, 1) := by decide +kernel
theorem dX2_whereIs_25 : decode cX2_whereIs 25 = .ok (.ishr, 1) := by decide +kernel
theorem dX2_whereIs_26 : decode cX2_whereIs 26 = .ok (.iconst 1, 1) := by decide +kernel
theorem dX2_whereIs_27 : decode cX2_whereIs 27 = .ok (.iand, 1) := by decide +kernel
theorem dX2_whereIs_28 : decode cX2_whereIs 28 = .ok (.imul, 1) := by decide +kernel
theorem dX2_whereIs_29 : decode cX2_whereIs 29 = .ok (.iadd, 1) := by decide +kernel
theorem dX2_whereIs_30 : decode cX2_whereIs 30 = .ok (.ireturn, 1) := by decide +kernel
theorem dX9_fruit_0 : decode cX9_fruit 0 = .ok (.aload_n 0, 1) := by decide +kernel
theorem dX9_fruit_1 : decode cX9_fruit 1 = .ok (.getfield 34, 3) := by decide +kernel
theorem dX9_fruit_4 : decode cX9_fruit 4 = .ok (.iload_n 1, 1) := by decide +kernel
theorem dX9_fruit_5 : decode cX9_fruit 5 = .ok (.invokevirtual 117, 3) := by decide +kernel
theorem dX9_fruit_8 : decode cX9_fruit 8 = .ok (.ifCond .ne 11, 3) := by decide +kernel
theorem dX9_fruit_11 : decode cX9_fruit 11 = .ok (.new 120, 3) := by decide +kernel
theorem dX9_fruit_14 : decode cX9_fruit 14 = .ok (.dup, 1) := by decide +kernel
theorem dX9_fruit_15 : decode cX9_fruit 15 = .ok (.invokespecial 122, 3) := by decide +kernel
theorem dX9_fruit_18 : decode cX9_fruit 18 = .ok (.athrow, 1) := by decide +kernel
theorem dX9_fruit_19 : decode cX9_fruit 19 = .ok (.iload_n 2, 1) := by decide +kernel
theorem dX9_fruit_20 : decode cX9_fruit 20 = .ok (.tableswitch 121 0 6 #[44, 54, 64, 74, 84, 93, 105], 44) := by decide +kernel
theorem dX9_fruit_64 : decode cX9_fruit 64 = .ok (.aload_n 0, 1) := by decide +kernel
theorem dX9_fruit_65 : decode cX9_fruit 65 = .ok (.getfield 34, 3) := by decide +kernel
theorem dX9_fruit_68 : decode cX9_fruit 68 = .ok (.getfield 123, 3) := by decide +kernel
theorem dX9_fruit_71 : decode cX9_fruit 71 = .ok (.iload_n 1, 1) := by decide +kernel
theorem dX9_fruit_72 : decode cX9_fruit 72 = .ok (.iaload, 1) := by decide +kernel
theorem dX9_fruit_73 : decode cX9_fruit 73 = .ok (.ireturn, 1) := by decide +kernel
theorem dX9_fruit_74 : decode cX9_fruit 74 = .ok (.aload_n 0, 1) := by decide +kernel
theorem dX9_fruit_75 : decode cX9_fruit 75 = .ok (.getfield 34, 3) := by decide +kernel
theorem dX9_fruit_78 : decode cX9_fruit 78 = .ok (.getfield 126, 3) := by decide +kernel
theorem dX9_fruit_81 : decode cX9_fruit 81 = .ok (.iload_n 1, 1) := by decide +kernel
theorem dX9_fruit_82 : decode cX9_fruit 82 = .ok (.iaload, 1) := by decide +kernel
theorem dX9_fruit_83 : decode cX9_fruit 83 = .ok (.ireturn, 1) := by decide +kernel
theorem dX9_fruit_84 : decode cX9_fruit 84 = .ok (.aload_n 0, 1) := by decide +kernel
theorem dX9_fruit_85 : decode cX9_fruit 85 = .ok (.getfield 34, 3) := by decide +kernel
theorem dX9_fruit_88 : decode cX9_fruit 88 = .ok (.getfield 129, 3) := by decide +kernel
theorem dX9_fruit_91 : decode cX9_fruit 91 = .ok (.iload_n 1, 1) := by decide +kernel
theorem dX9_fruit_92 : decode cX9_fruit 92 = .ok (.iaload, 1) := by decide +kernel
theorem dX9_fruit_93 : decode cX9_fruit 93 = .ok (.ireturn, 1) := by decide +kernel
theorem dX9_fruit_94 : decode cX9_fruit 94 = .ok (.aload_n 0, 1) := by decide +kernel
theorem dX9_fruit_95 : decode cX9_fruit 95 = .ok (.getfield 34, 3) := by decide +kernel
theorem dX9_fruit_98 : decode cX9_fruit 98 = .ok (.getfield 132, 3) := by decide +kernel
theorem dX9_fruit_101 : decode cX9_fruit 101 = .ok (.iload_n 1, 1) := by decide +kernel
theorem dX9_fruit_102 : decode cX9_fruit 102 = .ok (.iaload, 1) := by decide +kernel
theorem dX9_fruit_103 : decode cX9_fruit 103 = .ok (.ireturn, 1) := by decide +kernel
theorem dX9_fruit_104 : decode cX9_fruit 104 = .ok (.aload_n 0, 1) := by decide +kernel
theorem dX9_fruit_105 : decode cX9_fruit 105 = .ok (.getfield 39, 3) := by decide +kernel
theorem dX9_fruit_108 : decode cX9_fruit 108 = .ok (.iload_n 1, 1) := by decide +kernel
theorem dX9_fruit_109 : decode cX9_fruit 109 = .ok (.invokevirtual 135, 3) := by decide +kernel
theorem dX9_fruit_112 : decode cX9_fruit 112 = .ok (.ireturn, 1) := by decide +kernel
theorem dX9_fruit_113 : decode cX9_fruit 113 = .ok (.aload_n 0, 1) := by decide +kernel
theorem dX9_fruit_114 : decode cX9_fruit 114 = .ok (.getfield 39, 3) := by decide +kernel
theorem dX9_fruit_117 : decode cX9_fruit 117 = .ok (.getfield 140, 3) := by decide +kernel
theorem dX9_fruit_120 : decode cX9_fruit 120 = .ok (.iload_n 1, 1) := by decide +kernel
theorem dX9_fruit_121 : decode cX9_fruit 121 = .ok (.ishr, 1) := by decide +kernel
theorem dX9_fruit_122 : decode cX9_fruit 122 = .ok (.iconst 1, 1) := by decide +kernel
theorem dX9_fruit_123 : decode cX9_fruit 123 = .ok (.iand, 1) := by decide +kernel
theorem dX9_fruit_124 : decode cX9_fruit 124 = .ok (.ireturn, 1) := by decide +kernel
theorem dX9_fruit_125 : decode cX9_fruit 125 = .ok (.aload_n 0, 1) := by decide +kernel
theorem dX9_fruit_126 : decode cX9_fruit 126 = .ok (.getfield 34, 3) := by decide +kernel
theorem dX9_fruit_129 : decode cX9_fruit 129 = .ok (.iload_n 1, 1) := by decide +kernel
theorem dX9_fruit_130 : decode cX9_fruit 130 = .ok (.aload_n 0, 1) := by decide +kernel
theorem dX9_fruit_131 : decode cX9_fruit 131 = .ok (.getfield 27, 3) := by decide +kernel
theorem dX9_fruit_134 : decode cX9_fruit 134 = .ok (.invokevirtual 143, 3) := by decide +kernel
theorem dX9_fruit_137 : decode cX9_fruit 137 = .ok (.invokevirtual 146, 3) := by decide +kernel
theorem dX9_fruit_140 : decode cX9_fruit 140 = .ok (.ireturn, 1) := by decide +kernel
theorem dX9_fruit_141 : decode cX9_fruit 141 = .ok (.new 120, 3) := by decide +kernel
theorem dX9_fruit_144 : decode cX9_fruit 144 = .ok (.dup, 1) := by decide +kernel
theorem dX9_fruit_145 : decode cX9_fruit 145 = .ok (.invokespecial 122, 3) := by decide +kernel
theorem dX9_fruit_148 : decode cX9_fruit 148 = .ok (.athrow, 1) := by decide +kernel
theorem dX3_hasStanding_0 : decode cX3_hasStanding 0 = .ok (.iload_n 1, 1) := by decide +kernel
theorem dX3_hasStanding_1 : decode cX3_hasStanding 1 = .ok (.ifCond .lt 15, 3) := by decide +kernel
theorem dX3_hasStanding_4 : decode cX3_hasStanding 4 = .ok (.iload_n 1, 1) := by decide +kernel
theorem dX3_hasStanding_5 : decode cX3_hasStanding 5 = .ok (.aload_n 0, 1) := by decide +kernel
theorem dX3_hasStanding_6 : decode cX3_hasStanding 6 = .ok (.getfield 37, 3) := by decide +kernel
theorem dX3_hasStanding_9 : decode cX3_hasStanding 9 = .ok (.if_icmp .ge 7, 3) := by decide +kernel
theorem dX3_hasStanding_12 : decode cX3_hasStanding 12 = .ok (.iconst 1, 1) := by decide +kernel
theorem dX3_hasStanding_13 : decode cX3_hasStanding 13 = .ok (.goto 4, 3) := by decide +kernel
theorem dX3_hasStanding_16 : decode cX3_hasStanding 16 = .ok (.iconst 0, 1) := by decide +kernel
theorem dX3_hasStanding_17 : decode cX3_hasStanding 17 = .ok (.ireturn, 1) := by decide +kernel
theorem dX3_downSeconds_0 : decode cX3_downSeconds 0 = .ok (.iconst 3, 1) := by decide +kernel
theorem dX3_downSeconds_1 : decode cX3_downSeconds 1 = .ok (.aload_n 0, 1) := by decide +kernel
theorem dX3_downSeconds_2 : decode cX3_downSeconds 2 = .ok (.getfield 27, 3) := by decide +kernel
theorem dX3_downSeconds_5 : decode cX3_downSeconds 5 = .ok (.iload_n 1, 1) := by decide +kernel
theorem dX3_downSeconds_6 : decode cX3_downSeconds 6 = .ok (.iaload, 1) := by decide +kernel
theorem dX3_downSeconds_7 : decode cX3_downSeconds 7 = .ok (.bipush 9, 2) := by decide +kernel
theorem dX3_downSeconds_9 : decode cX3_downSeconds 9 = .ok (.iadd, 1) := by decide +kernel
theorem dX3_downSeconds_10 : decode cX3_downSeconds 10 = .ok (.bipush 10, 2) := by decide +kernel
theorem dX3_downSeconds_12 : decode cX3_downSeconds 12 = .ok (.idiv, 1) := by decide +kernel
theorem dX3_downSeconds_13 : decode cX3_downSeconds 13 = .ok (.iadd, 1) := by decide +kernel
theorem dX3_downSeconds_14 : decode cX3_downSeconds 14 = .ok (.ireturn, 1) := by decide +kernel
theorem dX9_standing_0 : decode cX9_standing 0 = .ok (.aload_n 0, 1) := by decide +kernel
theorem dX9_standing_1 : decode cX9_standing 1 = .ok (.getfield 34, 3) := by decide +kernel
theorem dX9_standing_4 : decode cX9_standing 4 = .ok (.iload_n 1, 1) := by decide +kernel
theorem dX9_standing_5 : decode cX9_standing 5 = .ok (.invokevirtual 150, 3) := by decide +kernel
theorem dX9_standing_8 : decode cX9_standing 8 = .ok (.ifCond .ne 11, 3) := by decide +kernel
theorem dX9_standing_11 : decode cX9_standing 11 = .ok (.new 120, 3) := by decide +kernel
theorem dX9_standing_14 : decode cX9_standing 14 = .ok (.dup, 1) := by decide +kernel
theorem dX9_standing_15 : decode cX9_standing 15 = .ok (.invokespecial 122, 3) := by decide +kernel
theorem dX9_standing_18 : decode cX9_standing 18 = .ok (.athrow, 1) := by decide +kernel
theorem dX9_standing_19 : decode cX9_standing 19 = .ok (.iload_n 2, 1) := by decide +kernel
theorem dX9_standing_20 : decode cX9_standing 20 = .ok (.tableswitch 57 0 2 #[28, 38, 48], 28) := by decide +kernel
theorem dX9_standing_48 : decode cX9_standing 48 = .ok (.aload_n 0, 1) := by decide +kernel
theorem dX9_standing_49 : decode cX9_standing 49 = .ok (.getfield 34, 3) := by decide +kernel
theorem dX9_standing_52 : decode cX9_standing 52 = .ok (.getfield 153, 3) := by decide +kernel
theorem dX9_standing_55 : decode cX9_standing 55 = .ok (.iload_n 1, 1) := by decide +kernel
theorem dX9_standing_56 : decode cX9_standing 56 = .ok (.iaload, 1) := by decide +kernel
theorem dX9_standing_57 : decode cX9_standing 57 = .ok (.ireturn, 1) := by decide +kernel
theorem dX9_standing_58 : decode cX9_standing 58 = .ok (.aload_n 0, 1) := by decide +kernel
theorem dX9_standing_59 : decode cX9_standing 59 = .ok (.getfield 34, 3) := by decide +kernel
theorem dX9_standing_62 : decode cX9_standing 62 = .ok (.getfield 156, 3) := by decide +kernel
theorem dX9_standing_65 : decode cX9_standing 65 = .ok (.iload_n 1, 1) := by decide +kernel
theorem dX9_standing_66 : decode cX9_standing 66 = .ok (.iaload, 1) := by decide +kernel
theorem dX9_standing_67 : decode cX9_standing 67 = .ok (.ireturn, 1) := by decide +kernel
theorem dX9_standing_68 : decode cX9_standing 68 = .ok (.aload_n 0, 1) := by decide +kernel
theorem dX9_standing_69 : decode cX9_standing 69 = .ok (.getfield 34, 3) := by decide +kernel
theorem dX9_standing_72 : decode cX9_standing 72 = .ok (.iload_n 1, 1) := by decide +kernel
theorem dX9_standing_73 : decode cX9_standing 73 = .ok (.invokevirtual 159, 3) := by decide +kernel
theorem dX9_standing_76 : decode cX9_standing 76 = .ok (.ireturn, 1) := by decide +kernel
theorem dX9_standing_77 : decode cX9_standing 77 = .ok (.new 120, 3) := by decide +kernel
theorem dX9_standing_80 : decode cX9_standing 80 = .ok (.dup, 1) := by decide +kernel
theorem dX9_standing_81 : decode cX9_standing 81 = .ok (.invokespecial 122, 3) := by decide +kernel
theorem dX9_standing_84 : decode cX9_standing 84 = .ok (.athrow, 1) := by decide +kernel
theorem dX9_set_0 : decode cX9_set 0 = .ok (.iload_n 1, 1) := by decide +kernel
theorem dX9_set_1 : decode cX9_set 1 = .ok (.ifCond .lt 26, 3) := by decide +kernel
theorem dX9_set_4 : decode cX9_set 4 = .ok (.iload_n 1, 1) := by decide +kernel
theorem dX9_set_5 : decode cX9_set 5 = .ok (.iconst 4, 1) := by decide +kernel
theorem dX9_set_6 : decode cX9_set 6 = .ok (.if_icmp .gt 21, 3) := by decide +kernel
theorem dX9_set_9 : decode cX9_set 9 = .ok (.iload_n 2, 1) := by decide +kernel
theorem dX9_set_10 : decode cX9_set 10 = .ok (.getstatic 162, 3) := by decide +kernel
theorem dX9_set_13 : decode cX9_set 13 = .ok (.iload_n 1, 1) := by decide +kernel
theorem dX9_set_14 : decode cX9_set 14 = .ok (.iaload, 1) := by decide +kernel
theorem dX9_set_15 : decode cX9_set 15 = .ok (.if_icmp .lt 12, 3) := by decide +kernel
theorem dX9_set_18 : decode cX9_set 18 = .ok (.iload_n 2, 1) := by decide +kernel
theorem dX9_set_19 : decode cX9_set 19 = .ok (.getstatic 165, 3) := by decide +kernel
theorem dX9_set_22 : decode cX9_set 22 = .ok (.iload_n 1, 1) := by decide +kernel
theorem dX9_set_23 : decode cX9_set 23 = .ok (.iaload, 1) := by decide +kernel
theorem dX9_set_24 : decode cX9_set 24 = .ok (.if_icmp .le 5, 3) := by decide +kernel
theorem dX9_set_27 : decode cX9_set 27 = .ok (.iconst (-1), 1) := by decide +kernel
theorem dX9_set_28 : decode cX9_set 28 = .ok (.ireturn, 1) := by decide +kernel
theorem dX9_set_29 : decode cX9_set 29 = .ok (.aload_n 0, 1) := by decide +kernel
theorem dX9_set_30 : decode cX9_set 30 = .ok (.getfield 34, 3) := by decide +kernel
theorem dX9_set_33 : decode cX9_set 33 = .ok (.getfield 168, 3) := by decide +kernel
theorem dX9_set_36 : decode cX9_set 36 = .ok (.iload_n 1, 1) := by decide +kernel
theorem dX9_set_37 : decode cX9_set 37 = .ok (.iaload, 1) := by decide +kernel
theorem dX9_set_38 : decode cX9_set 38 = .ok (.istore_n 3, 1) := by decide +kernel
theorem dX9_set_39 : decode cX9_set 39 = .ok (.aload_n 0, 1) := by decide +kernel
theorem dX9_set_40 : decode cX9_set 40 = .ok (.getfield 34, 3) := by decide +kernel
theorem dX9_set_43 : decode cX9_set 43 = .ok (.getfield 168, 3) := by decide +kernel
theorem dX9_set_46 : decode cX9_set 46 = .ok (.iload_n 1, 1) := by decide +kernel
theorem dX9_set_47 : decode cX9_set 47 = .ok (.iload_n 2, 1) := by decide +kernel
theorem dX9_set_48 : decode cX9_set 48 = .ok (.iastore, 1) := by decide +kernel
theorem dX9_set_49 : decode cX9_set 49 = .ok (.iload_n 3, 1) := by decide +kernel
theorem dX9_set_50 : decode cX9_set 50 = .ok (.ireturn, 1) := by decide +kernel
theorem dX3_fillWorths_0 : decode cX3_fillWorths 0 = .ok (.iconst 0, 1) := by decide +kernel
theorem dX3_fillWorths_1 : decode cX3_fillWorths 1 = .ok (.istore 5, 2) := by decide +kernel
theorem dX3_fillWorths_3 : decode cX3_fillWorths 3 = .ok (.iload_n 3, 1) := by decide +kernel
theorem dX3_fillWorths_4 : decode cX3_fillWorths 4 = .ok (.istore 6, 2) := by decide +kernel
theorem dX3_fillWorths_6 : decode cX3_fillWorths 6 = .ok (.iconst 0, 1) := by decide +kernel
theorem dX3_fillWorths_7 : decode cX3_fillWorths 7 = .ok (.istore 7, 2) := by decide +kernel
theorem dX3_fillWorths_9 : decode cX3_fillWorths 9 = .ok (.iload 7, 2) := by decide +kernel
theorem dX3_fillWorths_11 : decode cX3_fillWorths 11 = .ok (.aload_n 0, 1) := by decide +kernel
theorem dX3_fillWorths_12 : decode cX3_fillWorths 12 = .ok (.getfield 33, 3) := by decide +kernel
theorem dX3_fillWorths_15 : decode cX3_fillWorths 15 = .ok (.if_icmp .ge 81, 3) := by decide +kernel
theorem dX3_fillWorths_18 : decode cX3_fillWorths 18 = .ok (.iload_n 1, 1) := by decide +kernel
theorem dX3_fillWorths_19 : decode cX3_fillWorths 19 = .ok (.ifCond .ne 9, 3) := by decide +kernel
theorem dX3_fillWorths_22 : decode cX3_fillWorths 22 = .ok (.iload 6, 2) := by decide +kernel
theorem dX3_fillWorths_24 : decode cX3_fillWorths 24 = .ok (.i2b, 1) := by decide +kernel
theorem dX3_fillWorths_25 : decode cX3_fillWorths 25 = .ok (.goto 16, 3) := by decide +kernel
theorem dX3_fillWorths_28 : decode cX3_fillWorths 28 = .ok (.iload_n 1, 1) := by decide +kernel
theorem dX3_fillWorths_29 : decode cX3_fillWorths 29 = .ok (.iconst 1, 1) := by decide +kernel
theorem dX3_fillWorths_30 : decode cX3_fillWorths 30 = .ok (.if_icmp .ne 9, 3) := by decide +kernel
theorem dX3_fillWorths_33 : decode cX3_fillWorths 33 = .ok (.iload 6, 2) := by decide +kernel
theorem dX3_fillWorths_35 : decode cX3_fillWorths 35 = .ok (.i2s, 1) := by decide +kernel
theorem dX3_fillWorths_36 : decode cX3_fillWorths 36 = .ok (.goto 5, 3) := by decide +kernel
theorem dX3_fillWorths_39 : decode cX3_fillWorths 39 = .ok (.iload 6, 2) := by decide +kernel
theorem dX3_fillWorths_41 : decode cX3_fillWorths 41 = .ok (.istore 8, 2) := by decide +kernel
theorem dX3_fillWorths_43 : decode cX3_fillWorths 43 = .ok (.aload_n 0, 1) := by decide +kernel
theorem dX3_fillWorths_44 : decode cX3_fillWorths 44 = .ok (.getfield 18, 3) := by decide +kernel
theorem dX3_fillWorths_47 : decode cX3_fillWorths 47 = .ok (.iload 7, 2) := by decide +kernel
theorem dX3_fillWorths_49 : decode cX3_fillWorths 49 = .ok (.iload 7, 2) := by decide +kernel
theorem dX3_fillWorths_51 : decode cX3_fillWorths 51 = .ok (.iload_n 2, 1) := by decide +kernel
theorem dX3_fillWorths_52 : decode cX3_fillWorths 52 = .ok (.if_icmp .ge 17, 3) := by decide +kernel
theorem dX3_fillWorths_55 : decode cX3_fillWorths 55 = .ok (.iconst 0, 1) := by decide +kernel
theorem dX3_fillWorths_56 : decode cX3_fillWorths 56 = .ok (.bipush 9, 2) := by decide +kernel
theorem dX3_fillWorths_58 : decode cX3_fillWorths 58 = .ok (.iload 8, 2) := by decide +kernel
theorem dX3_fillWorths_60 : decode cX3_fillWorths 60 = .ok (.invokestatic 80, 3) := by decide +kernel
theorem dX3_fillWorths_63 : decode cX3_fillWorths 63 = .ok (.invokestatic 86, 3) := by decide +kernel
theorem dX3_fillWorths_66 : decode cX3_fillWorths 66 = .ok (.goto 4, 3) := by decide +kernel
theorem dX3_fillWorths_69 : decode cX3_fillWorths 69 = .ok (.iconst 0, 1) := by decide +kernel
theorem dX3_fillWorths_70 : decode cX3_fillWorths 70 = .ok (.iastore, 1) := by decide +kernel
theorem dX3_fillWorths_71 : decode cX3_fillWorths 71 = .ok (.iload 5, 2) := by decide +kernel
theorem dX3_fillWorths_73 : decode cX3_fillWorths 73 = .ok (.aload_n 0, 1) := by decide +kernel
theorem dX3_fillWorths_74 : decode cX3_fillWorths 74 = .ok (.getfield 18, 3) := by decide +kernel
theorem dX3_fillWorths_77 : decode cX3_fillWorths 77 = .ok (.iload 7, 2) := by decide +kernel
theorem dX3_fillWorths_79 : decode cX3_fillWorths 79 = .ok (.iaload, 1) := by decide +kernel
theorem dX3_fillWorths_80 : decode cX3_fillWorths 80 = .ok (.iadd, 1) := by decide +kernel
theorem dX3_fillWorths_81 : decode cX3_fillWorths 81 = .ok (.istore 5, 2) := by decide +kernel
theorem dX3_fillWorths_83 : decode cX3_fillWorths 83 = .ok (.iload 6, 2) := by decide +kernel
theorem dX3_fillWorths_85 : decode cX3_fillWorths 85 = .ok (.iload 4, 2) := by decide +kernel
theorem dX3_fillWorths_87 : decode cX3_fillWorths 87 = .ok (.iadd, 1) := by decide +kernel
theorem dX3_fillWorths_88 : decode cX3_fillWorths 88 = .ok (.istore 6, 2) := by decide +kernel
theorem dX3_fillWorths_90 : decode cX3_fillWorths 90 = .ok (.iinc 7 1, 3) := by decide +kernel
theorem dX3_fillWorths_93 : decode cX3_fillWorths 93 = .ok (.goto (-84), 3) := by decide +kernel
theorem dX3_fillWorths_96 : decode cX3_fillWorths 96 = .ok (.iload 5, 2) := by decide +kernel
theorem dX3_fillWorths_98 : decode cX3_fillWorths 98 = .ok (.ireturn, 1) := by decide +kernel
theorem dX9_sheet_0 : decode cX9_sheet 0 = .ok (.iload_n 1, 1) := by decide +kernel
theorem dX9_sheet_1 : decode cX9_sheet 1 = .ok (.ifCond .lt 14, 3) := by decide +kernel
theorem dX9_sheet_4 : decode cX9_sheet 4 = .ok (.iload_n 1, 1) := by decide +kernel
theorem dX9_sheet_5 : decode cX9_sheet 5 = .ok (.iconst 3, 1) := by decide +kernel
theorem dX9_sheet_6 : decode cX9_sheet 6 = .ok (.if_icmp .gt 9, 3) := by decide +kernel
theorem dX9_sheet_9 : decode cX9_sheet 9 = .ok (.iload_n 2, 1) := by decide +kernel
theorem dX9_sheet_10 : decode cX9_sheet 10 = .ok (.bipush 16, 2) := by decide +kernel
theorem dX9_sheet_12 : decode cX9_sheet 12 = .ok (.if_icmp .le 5, 3) := by decide +kernel
theorem dX9_sheet_15 : decode cX9_sheet 15 = .ok (.iconst (-1), 1) := by decide +kernel
theorem dX9_sheet_16 : decode cX9_sheet 16 = .ok (.ireturn, 1) := by decide +kernel
theorem dX9_sheet_17 : decode cX9_sheet 17 = .ok (.iload_n 1, 1) := by decide +kernel
theorem dX9_sheet_18 : decode cX9_sheet 18 = .ok (.iconst 3, 1) := by decide +kernel
theorem dX9_sheet_19 : decode cX9_sheet 19 = .ok (.if_icmp .ne 18, 3) := by decide +kernel
theorem dX9_sheet_22 : decode cX9_sheet 22 = .ok (.aload_n 0, 1) := by decide +kernel
theorem dX9_sheet_23 : decode cX9_sheet 23 = .ok (.getfield 34, 3) := by decide +kernel
theorem dX9_sheet_26 : decode cX9_sheet 26 = .ok (.iconst 2, 1) := by decide +kernel
theorem dX9_sheet_27 : decode cX9_sheet 27 = .ok (.iconst 0, 1) := by decide +kernel
theorem dX9_sheet_28 : decode cX9_sheet 28 = .ok (.iconst 0, 1) := by decide +kernel
theorem dX9_sheet_29 : decode cX9_sheet 29 = .ok (.iconst 0, 1) := by decide +kernel
theorem dX9_sheet_30 : decode cX9_sheet 30 = .ok (.invokevirtual 171, 3) := by decide +kernel
theorem dX9_sheet_33 : decode cX9_sheet 33 = .ok (.pop, 1) := by decide +kernel
theorem dX9_sheet_34 : decode cX9_sheet 34 = .ok (.bipush (-3), 2) := by decide +kernel
theorem dX9_sheet_36 : decode cX9_sheet 36 = .ok (.ireturn, 1) := by decide +kernel
theorem dX9_sheet_37 : decode cX9_sheet 37 = .ok (.iload_n 2, 1) := by decide +kernel
theorem dX9_sheet_38 : decode cX9_sheet 38 = .ok (.ifCond .ge 8, 3) := by decide +kernel
theorem dX9_sheet_41 : decode cX9_sheet 41 = .ok (.bipush (-2), 2) := by decide +kernel
theorem dX9_sheet_43 : decode cX9_sheet 43 = .ok (.goto 15, 3) := by decide +kernel
theorem dX9_sheet_46 : decode cX9_sheet 46 = .ok (.aload_n 0, 1) := by decide +kernel
theorem dX9_sheet_47 : decode cX9_sheet 47 = .ok (.getfield 34, 3) := by decide +kernel
theorem dX9_sheet_50 : decode cX9_sheet 50 = .ok (.iload_n 1, 1) := by decide +kernel
theorem dX9_sheet_51 : decode cX9_sheet 51 = .ok (.iload_n 2, 1) := by decide +kernel
theorem dX9_sheet_52 : decode cX9_sheet 52 = .ok (.iload_n 3, 1) := by decide +kernel
theorem dX9_sheet_53 : decode cX9_sheet 53 = .ok (.iload 4, 2) := by decide +kernel
theorem dX9_sheet_55 : decode cX9_sheet 55 = .ok (.invokevirtual 171, 3) := by decide +kernel
theorem dX9_sheet_58 : decode cX9_sheet 58 = .ok (.ireturn, 1) := by decide +kernel
theorem dX2_write_0 : decode cX2_write 0 = .ok (.iload_n 2, 1) := by decide +kernel
theorem dX2_write_1 : decode cX2_write 1 = .ok (.ifCond .lt 12, 3) := by decide +kernel
theorem dX2_write_4 : decode cX2_write 4 = .ok (.iload_n 2, 1) := by decide +kernel
theorem dX2_write_5 : decode cX2_write 5 = .ok (.aload_n 1, 1) := by decide +kernel
theorem dX2_write_6 : decode cX2_write 6 = .ok (.arraylength, 1) := by decide +kernel
theorem dX2_write_7 : decode cX2_write 7 = .ok (.bipush 8, 2) := by decide +kernel
theorem dX2_write_9 : decode cX2_write 9 = .ok (.isub, 1) := by decide +kernel
theorem dX2_write_10 : decode cX2_write 10 = .ok (.if_icmp .le 4, 3) := by decide +kernel
theorem dX2_write_13 : decode cX2_write 13 = .ok (.return_, 1) := by decide +kernel
theorem dX2_write_14 : decode cX2_write 14 = .ok (.aload_n 1, 1) := by decide +kernel
theorem dX2_write_15 : decode cX2_write 15 = .ok (.iload_n 2, 1) := by decide +kernel
theorem dX2_write_16 : decode cX2_write 16 = .ok (.aload_n 0, 1) := by decide +kernel
theorem dX2_write_17 : decode cX2_write 17 = .ok (.getfield 15, 3) := by decide +kernel
theorem dX2_write_20 : decode cX2_write 20 = .ok (.iastore, 1) := by decide +kernel
theorem dX2_write_21 : decode cX2_write 21 = .ok (.aload_n 1, 1) := by decide +kernel
theorem dX2_write_22 : decode cX2_write 22 = .ok (.iload_n 2, 1) := by decide +kernel
theorem dX2_write_23 : decode cX2_write 23 = .ok (.iconst 1, 1) := by decide +kernel
theorem dX2_write_24 : decode cX2_write 24 = .ok (.iadd, 1) := by decide +kernel
theorem dX2_write_25 : decode cX2_write 25 = .ok (.aload_n 0, 1) := by decide +kernel
theorem dX2_write_26 : decode cX2_write 26 = .ok (.getfield 18, 3) := by decide +kernel
theorem dX2_write_29 : decode cX2_write 29 = .ok (.iastore, 1) := by decide +kernel
theorem dX2_write_30 : decode cX2_write 30 = .ok (.aload_n 1, 1) := by decide +kernel
theorem dX2_write_31 : decode cX2_write 31 = .ok (.iload_n 2, 1) := by decide +kernel
theorem dX2_write_32 : decode cX2_write 32 = .ok (.iconst 2, 1) := by decide +kernel
theorem dX2_write_33 : decode cX2_write 33 = .ok (.iadd, 1) := by decide +kernel
theorem dX2_write_34 : decode cX2_write 34 = .ok (.aload_n 0, 1) := by decide +kernel
theorem dX2_write_35 : decode cX2_write 35 = .ok (.getfield 21, 3) := by decide +kernel
theorem dX2_write_38 : decode cX2_write 38 = .ok (.iastore, 1) := by decide +kernel
theorem dX2_write_39 : decode cX2_write 39 = .ok (.aload_n 1, 1) := by decide +kernel
theorem dX2_write_40 : decode cX2_write 40 = .ok (.iload_n 2, 1) := by decide +kernel
theorem dX2_write_41 : decode cX2_write 41 = .ok (.iconst 3, 1) := by decide +kernel
theorem dX2_write_42 : decode cX2_write 42 = .ok (.iadd, 1) := by decide +kernel
theorem dX2_write_43 : decode cX2_write 43 = .ok (.aload_n 0, 1) := by decide +kernel
theorem dX2_write_44 : decode cX2_write 44 = .ok (.getfield 33, 3) := by decide +kernel
theorem dX2_write_47 : decode cX2_write 47 = .ok (.iastore, 1) := by decide +kernel
theorem dX2_write_48 : decode cX2_write 48 = .ok (.aload_n 1, 1) := by decide +kernel
theorem dX2_write_49 : decode cX2_write 49 = .ok (.iload_n 2, 1) := by decide +kernel
theorem dX2_write_50 : decode cX2_write 50 = .ok (.iconst 4, 1) := by decide +kernel
theorem dX2_write_51 : decode cX2_write 51 = .ok (.iadd, 1) := by decide +kernel
theorem dX2_write_52 : decode cX2_write 52 = .ok (.aload_n 0, 1) := by decide +kernel
theorem dX2_write_53 : decode cX2_write 53 = .ok (.getfield 9, 3) := by decide +kernel
theorem dX2_write_56 : decode cX2_write 56 = .ok (.iastore, 1) := by decide +kernel
theorem dX2_write_57 : decode cX2_write 57 = .ok (.aload_n 1, 1) := by decide +kernel
theorem dX2_write_58 : decode cX2_write 58 = .ok (.iload_n 2, 1) := by decide +kernel
theorem dX2_write_59 : decode cX2_write 59 = .ok (.iconst 5, 1) := by decide +kernel
theorem dX2_write_60 : decode cX2_write 60 = .ok (.iadd, 1) := by decide +kernel
theorem dX2_write_61 : decode cX2_write 61 = .ok (.aload_n 0, 1) := by decide +kernel
theorem dX2_write_62 : decode cX2_write 62 = .ok (.getfield 36, 3) := by decide +kernel
theorem dX2_write_65 : decode cX2_write 65 = .ok (.iastore, 1) := by decide +kernel
theorem dX2_write_66 : decode cX2_write 66 = .ok (.aload_n 1, 1) := by decide +kernel
theorem dX2_write_67 : decode cX2_write 67 = .ok (.iload_n 2, 1) := by decide +kernel
theorem dX2_write_68 : decode cX2_write 68 = .ok (.bipush 6, 2) := by decide +kernel
theorem dX2_write_70 : decode cX2_write 70 = .ok (.iadd, 1) := by decide +kernel
theorem dX2_write_71 : decode cX2_write 71 = .ok (.aload_n 0, 1) := by decide +kernel
theorem dX2_write_72 : decode cX2_write 72 = .ok (.getfield 39, 3) := by decide +kernel
theorem dX2_write_75 : decode cX2_write 75 = .ok (.iastore, 1) := by decide +kernel
theorem dX2_write_76 : decode cX2_write 76 = .ok (.aload_n 1, 1) := by decide +kernel
theorem dX2_write_77 : decode cX2_write 77 = .ok (.iload_n 2, 1) := by decide +kernel
theorem dX2_write_78 : decode cX2_write 78 = .ok (.bipush 7, 2) := by decide +kernel
theorem dX2_write_80 : decode cX2_write 80 = .ok (.iadd, 1) := by decide +kernel
theorem dX2_write_81 : decode cX2_write 81 = .ok (.aload_n 0, 1) := by decide +kernel
theorem dX2_write_82 : decode cX2_write 82 = .ok (.getfield 24, 3) := by decide +kernel
theorem dX2_write_85 : decode cX2_write 85 = .ok (.iastore, 1) := by decide +kernel
theorem dX2_write_86 : decode cX2_write 86 = .ok (.return_, 1) := by decide +kernel
theorem dX4_note_0 : decode cX4_note 0 = .ok (.aload_n 1, 1) := by decide +kernel
theorem dX4_note_1 : decode cX4_note 1 = .ok (.aload_n 0, 1) := by decide +kernel
theorem dX4_note_2 : decode cX4_note 2 = .ok (.getfield 11, 3) := by decide +kernel
theorem dX4_note_5 : decode cX4_note 5 = .ok (.aload_n 0, 1) := by decide +kernel
theorem dX4_note_6 : decode cX4_note 6 = .ok (.getfield 22, 3) := by decide +kernel
theorem dX4_note_9 : decode cX4_note 9 = .ok (.bipush 8, 2) := by decide +kernel
theorem dX4_note_11 : decode cX4_note 11 = .ok (.imul, 1) := by decide +kernel
theorem dX4_note_12 : decode cX4_note 12 = .ok (.invokevirtual 26, 3) := by decide +kernel
theorem dX4_note_15 : decode cX4_note 15 = .ok (.return_, 1) := by decide +kernel
theorem dX3_moveSeconds_0 : decode cX3_moveSeconds 0 = .ok (.iload_n 1, 1) := by decide +kernel
theorem dX3_moveSeconds_1 : decode cX3_moveSeconds 1 = .ok (.iconst (-1), 1) := by decide +kernel
theorem dX3_moveSeconds_2 : decode cX3_moveSeconds 2 = .ok (.if_icmp .ne 8, 3) := by decide +kernel
theorem dX3_moveSeconds_5 : decode cX3_moveSeconds 5 = .ok (.bipush 9, 2) := by decide +kernel
theorem dX3_moveSeconds_7 : decode cX3_moveSeconds 7 = .ok (.goto 29, 3) := by decide +kernel
theorem dX3_moveSeconds_10 : decode cX3_moveSeconds 10 = .ok (.bipush 9, 2) := by decide +kernel
theorem dX3_moveSeconds_12 : decode cX3_moveSeconds 12 = .ok (.aload_n 0, 1) := by decide +kernel
theorem dX3_moveSeconds_13 : decode cX3_moveSeconds 13 = .ok (.getfield 30, 3) := by decide +kernel
theorem dX3_moveSeconds_16 : decode cX3_moveSeconds 16 = .ok (.iconst 3, 1) := by decide +kernel
theorem dX3_moveSeconds_17 : decode cX3_moveSeconds 17 = .ok (.iaload, 1) := by decide +kernel
theorem dX3_moveSeconds_18 : decode cX3_moveSeconds 18 = .ok (.aload_n 0, 1) := by decide +kernel
theorem dX3_moveSeconds_19 : decode cX3_moveSeconds 19 = .ok (.getfield 24, 3) := by decide +kernel
theorem dX3_moveSeconds_22 : decode cX3_moveSeconds 22 = .ok (.iload_n 1, 1) := by decide +kernel
theorem dX3_moveSeconds_23 : decode cX3_moveSeconds 23 = .ok (.iaload, 1) := by decide +kernel
theorem dX3_moveSeconds_24 : decode cX3_moveSeconds 24 = .ok (.aload_n 0, 1) := by decide +kernel
theorem dX3_moveSeconds_25 : decode cX3_moveSeconds 25 = .ok (.getfield 24, 3) := by decide +kernel
theorem dX3_moveSeconds_28 : decode cX3_moveSeconds 28 = .ok (.iload_n 2, 1) := by decide +kernel
theorem dX3_moveSeconds_29 : decode cX3_moveSeconds 29 = .ok (.iaload, 1) := by decide +kernel
theorem dX3_moveSeconds_30 : decode cX3_moveSeconds 30 = .ok (.isub, 1) := by decide +kernel
theorem dX3_moveSeconds_31 : decode cX3_moveSeconds 31 = .ok (.invokestatic 89, 3) := by decide +kernel
theorem dX3_moveSeconds_34 : decode cX3_moveSeconds 34 = .ok (.imul, 1) := by decide +kernel
theorem dX3_moveSeconds_35 : decode cX3_moveSeconds 35 = .ok (.iadd, 1) := by decide +kernel
theorem dX3_moveSeconds_36 : decode cX3_moveSeconds 36 = .ok (.ireturn, 1) := by decide +kernel
theorem dX2_emptyApron_0 : decode cX2_emptyApron 0 = .ok (.aload_n 0, 1) := by decide +kernel
theorem dX2_emptyApron_1 : decode cX2_emptyApron 1 = .ok (.dup, 1) := by decide +kernel
theorem dX2_emptyApron_2 : decode cX2_emptyApron 2 = .ok (.getfield 18, 3) := by decide +kernel
theorem dX2_emptyApron_5 : decode cX2_emptyApron 5 = .ok (.aload_n 0, 1) := by decide +kernel
theorem dX2_emptyApron_6 : decode cX2_emptyApron 6 = .ok (.getfield 15, 3) := by decide +kernel
theorem dX2_emptyApron_9 : decode cX2_emptyApron 9 = .ok (.ior, 1) := by decide +kernel
theorem dX2_emptyApron_10 : decode cX2_emptyApron 10 = .ok (.putfield 18, 3) := by decide +kernel
theorem dX2_emptyApron_13 : decode cX2_emptyApron 13 = .ok (.aload_n 0, 1) := by decide +kernel
theorem dX2_emptyApron_14 : decode cX2_emptyApron 14 = .ok (.iconst 0, 1) := by decide +kernel
theorem dX2_emptyApron_15 : decode cX2_emptyApron 15 = .ok (.putfield 15, 3) := by decide +kernel
theorem dX2_emptyApron_18 : decode cX2_emptyApron 18 = .ok (.return_, 1) := by decide +kernel
theorem dX2_spend_0 : decode cX2_spend 0 = .ok (.aload_n 0, 1) := by decide +kernel
theorem dX2_spend_1 : decode cX2_spend 1 = .ok (.sipush 9999, 3) := by decide +kernel
theorem dX2_spend_4 : decode cX2_spend 4 = .ok (.aload_n 0, 1) := by decide +kernel
theorem dX2_spend_5 : decode cX2_spend 5 = .ok (.getfield 24, 3) := by decide +kernel
theorem dX2_spend_8 : decode cX2_spend 8 = .ok (.iload_n 1, 1) := by decide +kernel
theorem dX2_spend_9 : decode cX2_spend 9 = .ok (.iadd, 1) := by decide +kernel
theorem dX2_spend_10 : decode cX2_spend 10 = .ok (.invokestatic 27, 3) := by decide +kernel
theorem dX2_spend_13 : decode cX2_spend 13 = .ok (.putfield 24, 3) := by decide +kernel
theorem dX2_spend_16 : decode cX2_spend 16 = .ok (.return_, 1) := by decide +kernel
theorem dX0_setLadder_0 : decode cX0_setLadder 0 = .ok (.aload_n 0, 1) := by decide +kernel
theorem dX0_setLadder_1 : decode cX0_setLadder 1 = .ok (.getfield 12, 3) := by decide +kernel
theorem dX0_setLadder_4 : decode cX0_setLadder 4 = .ok (.iload_n 1, 1) := by decide +kernel
theorem dX0_setLadder_5 : decode cX0_setLadder 5 = .ok (.invokevirtual 104, 3) := by decide +kernel
theorem dX0_setLadder_8 : decode cX0_setLadder 8 = .ok (.ifCond .ne 5, 3) := by decide +kernel
theorem dX0_setLadder_11 : decode cX0_setLadder 11 = .ok (.iconst (-1), 1) := by decide +kernel
theorem dX0_setLadder_12 : decode cX0_setLadder 12 = .ok (.ireturn, 1) := by decide +kernel
theorem dX0_setLadder_13 : decode cX0_setLadder 13 = .ok (.iload_n 1, 1) := by decide +kernel
theorem dX0_setLadder_14 : decode cX0_setLadder 14 = .ok (.aload_n 0, 1) := by decide +kernel
theorem dX0_setLadder_15 : decode cX0_setLadder 15 = .ok (.getfield 21, 3) := by decide +kernel
theorem dX0_setLadder_18 : decode cX0_setLadder 18 = .ok (.getfield 53, 3) := by decide +kernel
theorem dX0_setLadder_21 : decode cX0_setLadder 21 = .ok (.if_icmp .ne 6, 3) := by decide +kernel
theorem dX0_setLadder_24 : decode cX0_setLadder 24 = .ok (.bipush (-2), 2) := by decide +kernel
theorem dX0_setLadder_26 : decode cX0_setLadder 26 = .ok (.ireturn, 1) := by decide +kernel
theorem dX0_setLadder_27 : decode cX0_setLadder 27 = .ok (.aload_n 0, 1) := by decide +kernel
theorem dX0_setLadder_28 : decode cX0_setLadder 28 = .ok (.getfield 12, 3) := by decide +kernel
theorem dX0_setLadder_31 : decode cX0_setLadder 31 = .ok (.aload_n 0, 1) := by decide +kernel
theorem dX0_setLadder_32 : decode cX0_setLadder 32 = .ok (.getfield 21, 3) := by decide +kernel
theorem dX0_setLadder_35 : decode cX0_setLadder 35 = .ok (.getfield 53, 3) := by decide +kernel
theorem dX0_setLadder_38 : decode cX0_setLadder 38 = .ok (.iload_n 1, 1) := by decide +kernel
theorem dX0_setLadder_39 : decode cX0_setLadder 39 = .ok (.invokevirtual 108, 3) := by decide +kernel
theorem dX0_setLadder_42 : decode cX0_setLadder 42 = .ok (.istore_n 2, 1) := by decide +kernel
theorem dX0_setLadder_43 : decode cX0_setLadder 43 = .ok (.aload_n 0, 1) := by decide +kernel
theorem dX0_setLadder_44 : decode cX0_setLadder 44 = .ok (.getfield 21, 3) := by decide +kernel
theorem dX0_setLadder_47 : decode cX0_setLadder 47 = .ok (.getfield 36, 3) := by decide +kernel
theorem dX0_setLadder_50 : decode cX0_setLadder 50 = .ok (.ifCond .eq 31, 3) := by decide +kernel
theorem dX0_setLadder_53 : decode cX0_setLadder 53 = .ok (.aload_n 0, 1) := by decide +kernel
theorem dX0_setLadder_54 : decode cX0_setLadder 54 = .ok (.getfield 21, 3) := by decide +kernel
theorem dX0_setLadder_57 : decode cX0_setLadder 57 = .ok (.getfield 53, 3) := by decide +kernel
theorem dX0_setLadder_60 : decode cX0_setLadder 60 = .ok (.iconst (-1), 1) := by decide +kernel
theorem dX0_setLadder_61 : decode cX0_setLadder 61 = .ok (.if_icmp .eq 20, 3) := by decide +kernel
theorem dX0_setLadder_64 : decode cX0_setLadder 64 = .ok (.iload_n 2, 1) := by decide +kernel
theorem dX0_setLadder_65 : decode cX0_setLadder 65 = .ok (.aload_n 0, 1) := by decide +kernel
theorem dX0_setLadder_66 : decode cX0_setLadder 66 = .ok (.getfield 12, 3) := by decide +kernel
theorem dX0_setLadder_69 : decode cX0_setLadder 69 = .ok (.aload_n 0, 1) := by decide +kernel
theorem dX0_setLadder_70 : decode cX0_setLadder 70 = .ok (.getfield 21, 3) := by decide +kernel
theorem dX0_setLadder_73 : decode cX0_setLadder 73 = .ok (.getfield 53, 3) := by decide +kernel
theorem dX0_setLadder_76 : decode cX0_setLadder 76 = .ok (.invokevirtual 111, 3) := by decide +kernel
theorem dX0_setLadder_79 : decode cX0_setLadder 79 = .ok (.iadd, 1) := by decide +kernel
theorem dX0_setLadder_80 : decode cX0_setLadder 80 = .ok (.istore_n 2, 1) := by decide +kernel
theorem dX0_setLadder_81 : decode cX0_setLadder 81 = .ok (.aload_n 0, 1) := by decide +kernel
theorem dX0_setLadder_82 : decode cX0_setLadder 82 = .ok (.getfield 21, 3) := by decide +kernel
theorem dX0_setLadder_85 : decode cX0_setLadder 85 = .ok (.invokevirtual 114, 3) := by decide +kernel
theorem dX0_setLadder_88 : decode cX0_setLadder 88 = .ok (.aload_n 0, 1) := by decide +kernel
theorem dX0_setLadder_89 : decode cX0_setLadder 89 = .ok (.getfield 21, 3) := by decide +kernel
theorem dX0_setLadder_92 : decode cX0_setLadder 92 = .ok (.iload_n 1, 1) := by decide +kernel
theorem dX0_setLadder_93 : decode cX0_setLadder 93 = .ok (.putfield 53, 3) := by decide +kernel
theorem dX0_setLadder_96 : decode cX0_setLadder 96 = .ok (.aload_n 0, 1) := by decide +kernel
theorem dX0_setLadder_97 : decode cX0_setLadder 97 = .ok (.getfield 21, 3) := by decide +kernel
theorem dX0_setLadder_100 : decode cX0_setLadder 100 = .ok (.iload_n 2, 1) := by decide +kernel
theorem dX0_setLadder_101 : decode cX0_setLadder 101 = .ok (.invokevirtual 117, 3) := by decide +kernel
theorem dX0_setLadder_104 : decode cX0_setLadder 104 = .ok (.iload_n 2, 1) := by decide +kernel
theorem dX0_setLadder_105 : decode cX0_setLadder 105 = .ok (.ireturn, 1) := by decide +kernel
theorem dX4_hold_0 : decode cX4_hold 0 = .ok (.aload_n 0, 1) := by decide +kernel
theorem dX4_hold_1 : decode cX4_hold 1 = .ok (.aload_n 0, 1) := by decide +kernel
theorem dX4_hold_2 : decode cX4_hold 2 = .ok (.getfield 22, 3) := by decide +kernel
theorem dX4_hold_5 : decode cX4_hold 5 = .ok (.iconst 1, 1) := by decide +kernel
theorem dX4_hold_6 : decode cX4_hold 6 = .ok (.iadd, 1) := by decide +kernel
theorem dX4_hold_7 : decode cX4_hold 7 = .ok (.bipush 13, 2) := by decide +kernel
theorem dX4_hold_9 : decode cX4_hold 9 = .ok (.irem, 1) := by decide +kernel
theorem dX4_hold_10 : decode cX4_hold 10 = .ok (.putfield 22, 3) := by decide +kernel
theorem dX4_hold_13 : decode cX4_hold 13 = .ok (.aload_n 0, 1) := by decide +kernel
theorem dX4_hold_14 : decode cX4_hold 14 = .ok (.bipush 12, 2) := by decide +kernel
theorem dX4_hold_16 : decode cX4_hold 16 = .ok (.aload_n 0, 1) := by decide +kernel
theorem dX4_hold_17 : decode cX4_hold 17 = .ok (.getfield 30, 3) := by decide +kernel
theorem dX4_hold_20 : decode cX4_hold 20 = .ok (.iconst 1, 1) := by decide +kernel
theorem dX4_hold_21 : decode cX4_hold 21 = .ok (.iadd, 1) := by decide +kernel
theorem dX4_hold_22 : decode cX4_hold 22 = .ok (.invokestatic 33, 3) := by decide +kernel
theorem dX4_hold_25 : decode cX4_hold 25 = .ok (.putfield 30, 3) := by decide +kernel
theorem dX4_hold_28 : decode cX4_hold 28 = .ok (.return_, 1) := by decide +kernel
theorem dX9_holdIfDone_0 : decode cX9_holdIfDone 0 = .ok (.iload_n 1, 1) := by decide +kernel
theorem dX9_holdIfDone_1 : decode cX9_holdIfDone 1 = .ok (.ifCond .lt 10, 3) := by decide +kernel
theorem dX9_holdIfDone_4 : decode cX9_holdIfDone 4 = .ok (.aload_n 0, 1) := by decide +kernel
theorem dX9_holdIfDone_5 : decode cX9_holdIfDone 5 = .ok (.getfield 43, 3) := by decide +kernel
theorem dX9_holdIfDone_8 : decode cX9_holdIfDone 8 = .ok (.invokevirtual 212, 3) := by decide +kernel
theorem dX9_holdIfDone_11 : decode cX9_holdIfDone 11 = .ok (.iload_n 1, 1) := by decide +kernel
theorem dX9_holdIfDone_12 : decode cX9_holdIfDone 12 = .ok (.ireturn, 1) := by decide +kernel
theorem dX9_move_0 : decode cX9_move 0 = .ok (.aload_n 0, 1) := by decide +kernel
theorem dX9_move_1 : decode cX9_move 1 = .ok (.getfield 43, 3) := by decide +kernel
theorem dX9_move_4 : decode cX9_move 4 = .ok (.aload_n 0, 1) := by decide +kernel
theorem dX9_move_5 : decode cX9_move 5 = .ok (.getfield 39, 3) := by decide +kernel
theorem dX9_move_8 : decode cX9_move 8 = .ok (.invokevirtual 175, 3) := by decide +kernel
theorem dX9_move_11 : decode cX9_move 11 = .ok (.aload_n 0, 1) := by decide +kernel
theorem dX9_move_12 : decode cX9_move 12 = .ok (.aload_n 0, 1) := by decide +kernel
theorem dX9_move_13 : decode cX9_move 13 = .ok (.getfield 27, 3) := by decide +kernel
theorem dX9_move_16 : decode cX9_move 16 = .ok (.iload_n 1, 1) := by decide +kernel
theorem dX9_move_17 : decode cX9_move 17 = .ok (.invokevirtual 179, 3) := by decide +kernel
theorem dX9_move_20 : decode cX9_move 20 = .ok (.invokevirtual 182, 3) := by decide +kernel
theorem dX9_move_23 : decode cX9_move 23 = .ok (.ireturn, 1) := by decide +kernel
theorem dX9_isYesOrNo_0 : decode cX9_isYesOrNo 0 = .ok (.iload_n 0, 1) := by decide +kernel
theorem dX9_isYesOrNo_1 : decode cX9_isYesOrNo 1 = .ok (.ifCond .eq 8, 3) := by decide +kernel
theorem dX9_isYesOrNo_4 : decode cX9_isYesOrNo 4 = .ok (.iload_n 0, 1) := by decide +kernel
theorem dX9_isYesOrNo_5 : decode cX9_isYesOrNo 5 = .ok (.iconst 1, 1) := by decide +kernel
theorem dX9_isYesOrNo_6 : decode cX9_isYesOrNo 6 = .ok (.if_icmp .ne 7, 3) := by decide +kernel
theorem dX9_isYesOrNo_9 : decode cX9_isYesOrNo 9 = .ok (.iconst 1, 1) := by decide +kernel
theorem dX9_isYesOrNo_10 : decode cX9_isYesOrNo 10 = .ok (.goto 4, 3) := by decide +kernel
theorem dX9_isYesOrNo_13 : decode cX9_isYesOrNo 13 = .ok (.iconst 0, 1) := by decide +kernel
theorem dX9_isYesOrNo_14 : decode cX9_isYesOrNo 14 = .ok (.ireturn, 1) := by decide +kernel
theorem dX0_setHelper_0 : decode cX0_setHelper 0 = .ok (.iload_n 1, 1) := by decide +kernel
theorem dX0_setHelper_1 : decode cX0_setHelper 1 = .ok (.invokestatic 121, 3) := by decide +kernel
theorem dX0_setHelper_4 : decode cX0_setHelper 4 = .ok (.ifCond .ne 5, 3) := by decide +kernel
theorem dX0_setHelper_7 : decode cX0_setHelper 7 = .ok (.iconst (-1), 1) := by decide +kernel
theorem dX0_setHelper_8 : decode cX0_setHelper 8 = .ok (.ireturn, 1) := by decide +kernel
theorem dX0_setHelper_9 : decode cX0_setHelper 9 = .ok (.aload_n 0, 1) := by decide +kernel
theorem dX0_setHelper_10 : decode cX0_setHelper 10 = .ok (.getfield 21, 3) := by decide +kernel
theorem dX0_setHelper_13 : decode cX0_setHelper 13 = .ok (.getfield 56, 3) := by decide +kernel
theorem dX0_setHelper_16 : decode cX0_setHelper 16 = .ok (.istore_n 2, 1) := by decide +kernel
theorem dX0_setHelper_17 : decode cX0_setHelper 17 = .ok (.aload_n 0, 1) := by decide +kernel
theorem dX0_setHelper_18 : decode cX0_setHelper 18 = .ok (.getfield 21, 3) := by decide +kernel
theorem dX0_setHelper_21 : decode cX0_setHelper 21 = .ok (.iload_n 1, 1) := by decide +kernel
theorem dX0_setHelper_22 : decode cX0_setHelper 22 = .ok (.putfield 56, 3) := by decide +kernel
theorem dX0_setHelper_25 : decode cX0_setHelper 25 = .ok (.iload_n 2, 1) := by decide +kernel
theorem dX0_setHelper_26 : decode cX0_setHelper 26 = .ok (.ireturn, 1) := by decide +kernel
theorem dX9_foot_0 : decode cX9_foot 0 = .ok (.aload_n 0, 1) := by decide +kernel
theorem dX9_foot_1 : decode cX9_foot 1 = .ok (.getfield 43, 3) := by decide +kernel
theorem dX9_foot_4 : decode cX9_foot 4 = .ok (.aload_n 0, 1) := by decide +kernel
theorem dX9_foot_5 : decode cX9_foot 5 = .ok (.getfield 39, 3) := by decide +kernel
theorem dX9_foot_8 : decode cX9_foot 8 = .ok (.invokevirtual 175, 3) := by decide +kernel
theorem dX9_foot_11 : decode cX9_foot 11 = .ok (.aload_n 0, 1) := by decide +kernel
theorem dX9_foot_12 : decode cX9_foot 12 = .ok (.aload_n 0, 1) := by decide +kernel
theorem dX9_foot_13 : decode cX9_foot 13 = .ok (.getfield 27, 3) := by decide +kernel
theorem dX9_foot_16 : decode cX9_foot 16 = .ok (.iload_n 1, 1) := by decide +kernel
theorem dX9_foot_17 : decode cX9_foot 17 = .ok (.invokevirtual 185, 3) := by decide +kernel
theorem dX9_foot_20 : decode cX9_foot 20 = .ok (.invokevirtual 182, 3) := by decide +kernel
theorem dX9_foot_23 : decode cX9_foot 23 = .ok (.ireturn, 1) := by decide +kernel
theorem dX3_reach_0 : decode cX3_reach 0 = .ok (.aload_n 0, 1) := by decide +kernel
theorem dX3_reach_1 : decode cX3_reach 1 = .ok (.getfield 30, 3) := by decide +kernel
theorem dX3_reach_4 : decode cX3_reach 4 = .ok (.iconst 0, 1) := by decide +kernel
theorem dX3_reach_5 : decode cX3_reach 5 = .ok (.iaload, 1) := by decide +kernel
theorem dX3_reach_6 : decode cX3_reach 6 = .ok (.iload_n 1, 1) := by decide +kernel
theorem dX3_reach_7 : decode cX3_reach 7 = .ok (.aload_n 0, 1) := by decide +kernel
theorem dX3_reach_8 : decode cX3_reach 8 = .ok (.getfield 30, 3) := by decide +kernel
theorem dX3_reach_11 : decode cX3_reach 11 = .ok (.iconst 1, 1) := by decide +kernel
theorem dX3_reach_12 : decode cX3_reach 12 = .ok (.iaload, 1) := by decide +kernel
theorem dX3_reach_13 : decode cX3_reach 13 = .ok (.imul, 1) := by decide +kernel
theorem dX3_reach_14 : decode cX3_reach 14 = .ok (.iadd, 1) := by decide +kernel
theorem dX3_reach_15 : decode cX3_reach 15 = .ok (.iload_n 2, 1) := by decide +kernel
theorem dX3_reach_16 : decode cX3_reach 16 = .ok (.aload_n 0, 1) := by decide +kernel
theorem dX3_reach_17 : decode cX3_reach 17 = .ok (.getfield 30, 3) := by decide +kernel
theorem dX3_reach_20 : decode cX3_reach 20 = .ok (.iconst 2, 1) := by decide +kernel
theorem dX3_reach_21 : decode cX3_reach 21 = .ok (.iaload, 1) := by decide +kernel
theorem dX3_reach_22 : decode cX3_reach 22 = .ok (.imul, 1) := by decide +kernel
theorem dX3_reach_23 : decode cX3_reach 23 = .ok (.iadd, 1) := by decide +kernel
theorem dX3_reach_24 : decode cX3_reach 24 = .ok (.ireturn, 1) := by decide +kernel
theorem dX3_aside_0 : decode cX3_aside 0 = .ok (.aload_n 0, 1) := by decide +kernel
theorem dX3_aside_1 : decode cX3_aside 1 = .ok (.getfield 9, 3) := by decide +kernel
theorem dX3_aside_4 : decode cX3_aside 4 = .ok (.iload_n 1, 1) := by decide +kernel
theorem dX3_aside_5 : decode cX3_aside 5 = .ok (.iaload, 1) := by decide +kernel
theorem dX3_aside_6 : decode cX3_aside 6 = .ok (.aload_n 0, 1) := by decide +kernel
theorem dX3_aside_7 : decode cX3_aside 7 = .ok (.getfield 24, 3) := by decide +kernel
theorem dX3_aside_10 : decode cX3_aside 10 = .ok (.iload_n 2, 1) := by decide +kernel
theorem dX3_aside_11 : decode cX3_aside 11 = .ok (.iaload, 1) := by decide +kernel
theorem dX3_aside_12 : decode cX3_aside 12 = .ok (.if_icmp .le 19, 3) := by decide +kernel
theorem dX3_aside_15 : decode cX3_aside 15 = .ok (.aload_n 0, 1) := by decide +kernel
theorem dX3_aside_16 : decode cX3_aside 16 = .ok (.getfield 9, 3) := by decide +kernel
theorem dX3_aside_19 : decode cX3_aside 19 = .ok (.iload_n 1, 1) := by decide +kernel
