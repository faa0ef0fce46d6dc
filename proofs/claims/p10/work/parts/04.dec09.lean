theorem dX10_thing_15 : decode cX10_thing 15 = .ok (.ireturn, 1) := by decide +kernel
theorem dX10_thing_16 : decode cX10_thing 16 = .ok (.aload_n 0, 1) := by decide +kernel
theorem dX10_thing_17 : decode cX10_thing 17 = .ok (.invokevirtual 122, 3) := by decide +kernel
theorem dX10_thing_20 : decode cX10_thing 20 = .ok (.ifCond .ne 5, 3) := by decide +kernel
theorem dX10_thing_23 : decode cX10_thing 23 = .ok (.iconst 0, 1) := by decide +kernel
theorem dX10_thing_24 : decode cX10_thing 24 = .ok (.ireturn, 1) := by decide +kernel
theorem dX10_thing_25 : decode cX10_thing 25 = .ok (.aload_n 0, 1) := by decide +kernel
theorem dX10_thing_26 : decode cX10_thing 26 = .ok (.invokevirtual 126, 3) := by decide +kernel
theorem dX10_thing_29 : decode cX10_thing 29 = .ok (.istore_n 2, 1) := by decide +kernel
theorem dX10_thing_30 : decode cX10_thing 30 = .ok (.iload_n 2, 1) := by decide +kernel
theorem dX10_thing_31 : decode cX10_thing 31 = .ok (.bipush 40, 2) := by decide +kernel
theorem dX10_thing_33 : decode cX10_thing 33 = .ok (.if_icmp .ne 34, 3) := by decide +kernel
theorem dX10_thing_36 : decode cX10_thing 36 = .ok (.iload_n 1, 1) := by decide +kernel
theorem dX10_thing_37 : decode cX10_thing 37 = .ok (.iconst 4, 1) := by decide +kernel
theorem dX10_thing_38 : decode cX10_thing 38 = .ok (.if_icmp .ge 29, 3) := by decide +kernel
theorem dX10_thing_41 : decode cX10_thing 41 = .ok (.aload_n 0, 1) := by decide +kernel
theorem dX10_thing_42 : decode cX10_thing 42 = .ok (.dup, 1) := by decide +kernel
theorem dX10_thing_43 : decode cX10_thing 43 = .ok (.getfield 116, 3) := by decide +kernel
theorem dX10_thing_46 : decode cX10_thing 46 = .ok (.iconst 1, 1) := by decide +kernel
theorem dX10_thing_47 : decode cX10_thing 47 = .ok (.iadd, 1) := by decide +kernel
theorem dX10_thing_48 : decode cX10_thing 48 = .ok (.putfield 116, 3) := by decide +kernel
theorem dX10_thing_51 : decode cX10_thing 51 = .ok (.aload_n 0, 1) := by decide +kernel
theorem dX10_thing_52 : decode cX10_thing 52 = .ok (.iload_n 1, 1) := by decide +kernel
theorem dX10_thing_53 : decode cX10_thing 53 = .ok (.iconst 1, 1) := by decide +kernel
theorem dX10_thing_54 : decode cX10_thing 54 = .ok (.iadd, 1) := by decide +kernel
theorem dX10_thing_55 : decode cX10_thing 55 = .ok (.invokevirtual 174, 3) := by decide +kernel
theorem dX10_thing_58 : decode cX10_thing 58 = .ok (.istore_n 3, 1) := by decide +kernel
theorem dX10_thing_59 : decode cX10_thing 59 = .ok (.aload_n 0, 1) := by decide +kernel
theorem dX10_thing_60 : decode cX10_thing 60 = .ok (.bipush 41, 2) := by decide +kernel
theorem dX10_thing_62 : decode cX10_thing 62 = .ok (.invokevirtual 145, 3) := by decide +kernel
theorem dX10_thing_65 : decode cX10_thing 65 = .ok (.iload_n 3, 1) := by decide +kernel
theorem dX10_thing_66 : decode cX10_thing 66 = .ok (.ireturn, 1) := by decide +kernel
theorem dX10_thing_67 : decode cX10_thing 67 = .ok (.iload_n 2, 1) := by decide +kernel
theorem dX10_thing_68 : decode cX10_thing 68 = .ok (.bipush 48, 2) := by decide +kernel
theorem dX10_thing_70 : decode cX10_thing 70 = .ok (.bipush 57, 2) := by decide +kernel
theorem dX10_thing_72 : decode cX10_thing 72 = .ok (.invokestatic 97, 3) := by decide +kernel
theorem dX10_thing_75 : decode cX10_thing 75 = .ok (.ifCond .eq 9, 3) := by decide +kernel
theorem dX10_thing_78 : decode cX10_thing 78 = .ok (.aload_n 0, 1) := by decide +kernel
theorem dX10_thing_79 : decode cX10_thing 79 = .ok (.iconst 3, 1) := by decide +kernel
theorem dX10_thing_80 : decode cX10_thing 80 = .ok (.invokevirtual 141, 3) := by decide +kernel
theorem dX10_thing_83 : decode cX10_thing 83 = .ok (.ireturn, 1) := by decide +kernel
theorem dX10_thing_84 : decode cX10_thing 84 = .ok (.iload_n 2, 1) := by decide +kernel
theorem dX10_thing_85 : decode cX10_thing 85 = .ok (.bipush 100, 2) := by decide +kernel
theorem dX10_thing_87 : decode cX10_thing 87 = .ok (.if_icmp .eq 49, 3) := by decide +kernel
theorem dX10_thing_90 : decode cX10_thing 90 = .ok (.iload_n 2, 1) := by decide +kernel
theorem dX10_thing_91 : decode cX10_thing 91 = .ok (.bipush 117, 2) := by decide +kernel
theorem dX10_thing_93 : decode cX10_thing 93 = .ok (.if_icmp .eq 43, 3) := by decide +kernel
theorem dX10_thing_96 : decode cX10_thing 96 = .ok (.iload_n 2, 1) := by decide +kernel
theorem dX10_thing_97 : decode cX10_thing 97 = .ok (.bipush 121, 2) := by decide +kernel
theorem dX10_thing_99 : decode cX10_thing 99 = .ok (.if_icmp .eq 37, 3) := by decide +kernel
theorem dX10_thing_102 : decode cX10_thing 102 = .ok (.iload_n 2, 1) := by decide +kernel
theorem dX10_thing_103 : decode cX10_thing 103 = .ok (.bipush 119, 2) := by decide +kernel
theorem dX10_thing_105 : decode cX10_thing 105 = .ok (.if_icmp .eq 31, 3) := by decide +kernel
theorem dX10_thing_108 : decode cX10_thing 108 = .ok (.iload_n 2, 1) := by decide +kernel
theorem dX10_thing_109 : decode cX10_thing 109 = .ok (.bipush 115, 2) := by decide +kernel
theorem dX10_thing_111 : decode cX10_thing 111 = .ok (.if_icmp .eq 25, 3) := by decide +kernel
theorem dX10_thing_114 : decode cX10_thing 114 = .ok (.iload_n 2, 1) := by decide +kernel
theorem dX10_thing_115 : decode cX10_thing 115 = .ok (.bipush 107, 2) := by decide +kernel
theorem dX10_thing_117 : decode cX10_thing 117 = .ok (.if_icmp .eq 19, 3) := by decide +kernel
theorem dX10_thing_120 : decode cX10_thing 120 = .ok (.iload_n 2, 1) := by decide +kernel
theorem dX10_thing_121 : decode cX10_thing 121 = .ok (.bipush 111, 2) := by decide +kernel
theorem dX10_thing_123 : decode cX10_thing 123 = .ok (.if_icmp .eq 13, 3) := by decide +kernel
theorem dX10_thing_126 : decode cX10_thing 126 = .ok (.aload_n 0, 1) := by decide +kernel
theorem dX10_thing_127 : decode cX10_thing 127 = .ok (.aload_n 0, 1) := by decide +kernel
theorem dX10_thing_128 : decode cX10_thing 128 = .ok (.getfield 116, 3) := by decide +kernel
theorem dX10_thing_131 : decode cX10_thing 131 = .ok (.invokevirtual 134, 3) := by decide +kernel
theorem dX10_thing_134 : decode cX10_thing 134 = .ok (.iconst 0, 1) := by decide +kernel
theorem dX10_thing_135 : decode cX10_thing 135 = .ok (.ireturn, 1) := by decide +kernel
theorem dX10_thing_136 : decode cX10_thing 136 = .ok (.aload_n 0, 1) := by decide +kernel
theorem dX10_thing_137 : decode cX10_thing 137 = .ok (.dup, 1) := by decide +kernel
theorem dX10_thing_138 : decode cX10_thing 138 = .ok (.getfield 116, 3) := by decide +kernel
theorem dX10_thing_141 : decode cX10_thing 141 = .ok (.iconst 1, 1) := by decide +kernel
theorem dX10_thing_142 : decode cX10_thing 142 = .ok (.iadd, 1) := by decide +kernel
theorem dX10_thing_143 : decode cX10_thing 143 = .ok (.putfield 116, 3) := by decide +kernel
theorem dX10_thing_146 : decode cX10_thing 146 = .ok (.aload_n 0, 1) := by decide +kernel
theorem dX10_thing_147 : decode cX10_thing 147 = .ok (.getfield 177, 3) := by decide +kernel
theorem dX10_thing_150 : decode cX10_thing 150 = .ok (.ifCond .eq 11, 3) := by decide +kernel
theorem dX10_thing_153 : decode cX10_thing 153 = .ok (.aload_n 0, 1) := by decide +kernel
theorem dX10_thing_154 : decode cX10_thing 154 = .ok (.iload_n 2, 1) := by decide +kernel
theorem dX10_thing_155 : decode cX10_thing 155 = .ok (.invokevirtual 181, 3) := by decide +kernel
theorem dX10_thing_158 : decode cX10_thing 158 = .ok (.goto 4, 3) := by decide +kernel
theorem dX10_thing_161 : decode cX10_thing 161 = .ok (.iconst 0, 1) := by decide +kernel
theorem dX10_thing_162 : decode cX10_thing 162 = .ok (.ireturn, 1) := by decide +kernel
theorem dX10_product_0 : decode cX10_product 0 = .ok (.aload_n 0, 1) := by decide +kernel
theorem dX10_product_1 : decode cX10_product 1 = .ok (.iload_n 1, 1) := by decide +kernel
theorem dX10_product_2 : decode cX10_product 2 = .ok (.invokevirtual 171, 3) := by decide +kernel
theorem dX10_product_5 : decode cX10_product 5 = .ok (.istore_n 2, 1) := by decide +kernel
theorem dX10_product_6 : decode cX10_product 6 = .ok (.aload_n 0, 1) := by decide +kernel
theorem dX10_product_7 : decode cX10_product 7 = .ok (.invokevirtual 122, 3) := by decide +kernel
theorem dX10_product_10 : decode cX10_product 10 = .ok (.ifCond .eq 81, 3) := by decide +kernel
theorem dX10_product_13 : decode cX10_product 13 = .ok (.aload_n 0, 1) := by decide +kernel
theorem dX10_product_14 : decode cX10_product 14 = .ok (.invokevirtual 126, 3) := by decide +kernel
theorem dX10_product_17 : decode cX10_product 17 = .ok (.bipush 42, 2) := by decide +kernel
theorem dX10_product_19 : decode cX10_product 19 = .ok (.if_icmp .eq 12, 3) := by decide +kernel
theorem dX10_product_22 : decode cX10_product 22 = .ok (.aload_n 0, 1) := by decide +kernel
theorem dX10_product_23 : decode cX10_product 23 = .ok (.invokevirtual 126, 3) := by decide +kernel
theorem dX10_product_26 : decode cX10_product 26 = .ok (.bipush 47, 2) := by decide +kernel
theorem dX10_product_28 : decode cX10_product 28 = .ok (.if_icmp .ne 63, 3) := by decide +kernel
theorem dX10_product_31 : decode cX10_product 31 = .ok (.aload_n 0, 1) := by decide +kernel
theorem dX10_product_32 : decode cX10_product 32 = .ok (.invokevirtual 126, 3) := by decide +kernel
theorem dX10_product_35 : decode cX10_product 35 = .ok (.bipush 42, 2) := by decide +kernel
theorem dX10_product_37 : decode cX10_product 37 = .ok (.if_icmp .ne 7, 3) := by decide +kernel
theorem dX10_product_40 : decode cX10_product 40 = .ok (.iconst 1, 1) := by decide +kernel
theorem dX10_product_41 : decode cX10_product 41 = .ok (.goto 4, 3) := by decide +kernel
theorem dX10_product_44 : decode cX10_product 44 = .ok (.iconst 0, 1) := by decide +kernel
theorem dX10_product_45 : decode cX10_product 45 = .ok (.istore_n 3, 1) := by decide +kernel
theorem dX10_product_46 : decode cX10_product 46 = .ok (.aload_n 0, 1) := by decide +kernel
theorem dX10_product_47 : decode cX10_product 47 = .ok (.dup, 1) := by decide +kernel
theorem dX10_product_48 : decode cX10_product 48 = .ok (.getfield 116, 3) := by decide +kernel
theorem dX10_product_51 : decode cX10_product 51 = .ok (.iconst 1, 1) := by decide +kernel
theorem dX10_product_52 : decode cX10_product 52 = .ok (.iadd, 1) := by decide +kernel
theorem dX10_product_53 : decode cX10_product 53 = .ok (.putfield 116, 3) := by decide +kernel
theorem dX10_product_56 : decode cX10_product 56 = .ok (.aload_n 0, 1) := by decide +kernel
theorem dX10_product_57 : decode cX10_product 57 = .ok (.iload_n 1, 1) := by decide +kernel
theorem dX10_product_58 : decode cX10_product 58 = .ok (.invokevirtual 171, 3) := by decide +kernel
theorem dX10_product_61 : decode cX10_product 61 = .ok (.istore 4, 2) := by decide +kernel
theorem dX10_product_63 : decode cX10_product 63 = .ok (.iload_n 3, 1) := by decide +kernel
theorem dX10_product_64 : decode cX10_product 64 = .ok (.ifCond .eq 10, 3) := by decide +kernel
theorem dX10_product_67 : decode cX10_product 67 = .ok (.iload_n 2, 1) := by decide +kernel
theorem dX10_product_68 : decode cX10_product 68 = .ok (.iload 4, 2) := by decide +kernel
theorem dX10_product_70 : decode cX10_product 70 = .ok (.imul, 1) := by decide +kernel
theorem dX10_product_71 : decode cX10_product 71 = .ok (.goto 16, 3) := by decide +kernel
theorem dX10_product_74 : decode cX10_product 74 = .ok (.iload 4, 2) := by decide +kernel
theorem dX10_product_76 : decode cX10_product 76 = .ok (.ifCond .ne 7, 3) := by decide +kernel
theorem dX10_product_79 : decode cX10_product 79 = .ok (.iconst 0, 1) := by decide +kernel
theorem dX10_product_80 : decode cX10_product 80 = .ok (.goto 7, 3) := by decide +kernel
theorem dX10_product_83 : decode cX10_product 83 = .ok (.iload_n 2, 1) := by decide +kernel
theorem dX10_product_84 : decode cX10_product 84 = .ok (.iload 4, 2) := by decide +kernel
theorem dX10_product_86 : decode cX10_product 86 = .ok (.idiv, 1) := by decide +kernel
theorem dX10_product_87 : decode cX10_product 87 = .ok (.istore_n 2, 1) := by decide +kernel
theorem dX10_product_88 : decode cX10_product 88 = .ok (.goto (-82), 3) := by decide +kernel
theorem dX10_product_91 : decode cX10_product 91 = .ok (.iload_n 2, 1) := by decide +kernel
theorem dX10_product_92 : decode cX10_product 92 = .ok (.ireturn, 1) := by decide +kernel
theorem dX10_sum_0 : decode cX10_sum 0 = .ok (.aload_n 0, 1) := by decide +kernel
theorem dX10_sum_1 : decode cX10_sum 1 = .ok (.iload_n 1, 1) := by decide +kernel
theorem dX10_sum_2 : decode cX10_sum 2 = .ok (.invokevirtual 168, 3) := by decide +kernel
theorem dX10_sum_5 : decode cX10_sum 5 = .ok (.istore_n 2, 1) := by decide +kernel
theorem dX10_sum_6 : decode cX10_sum 6 = .ok (.aload_n 0, 1) := by decide +kernel
theorem dX10_sum_7 : decode cX10_sum 7 = .ok (.invokevirtual 122, 3) := by decide +kernel
theorem dX10_sum_10 : decode cX10_sum 10 = .ok (.ifCond .eq 72, 3) := by decide +kernel
theorem dX10_sum_13 : decode cX10_sum 13 = .ok (.aload_n 0, 1) := by decide +kernel
theorem dX10_sum_14 : decode cX10_sum 14 = .ok (.invokevirtual 126, 3) := by decide +kernel
theorem dX10_sum_17 : decode cX10_sum 17 = .ok (.bipush 43, 2) := by decide +kernel
theorem dX10_sum_19 : decode cX10_sum 19 = .ok (.if_icmp .eq 12, 3) := by decide +kernel
theorem dX10_sum_22 : decode cX10_sum 22 = .ok (.aload_n 0, 1) := by decide +kernel
theorem dX10_sum_23 : decode cX10_sum 23 = .ok (.invokevirtual 126, 3) := by decide +kernel
theorem dX10_sum_26 : decode cX10_sum 26 = .ok (.bipush 45, 2) := by decide +kernel
theorem dX10_sum_28 : decode cX10_sum 28 = .ok (.if_icmp .ne 54, 3) := by decide +kernel
theorem dX10_sum_31 : decode cX10_sum 31 = .ok (.aload_n 0, 1) := by decide +kernel
theorem dX10_sum_32 : decode cX10_sum 32 = .ok (.invokevirtual 126, 3) := by decide +kernel
theorem dX10_sum_35 : decode cX10_sum 35 = .ok (.bipush 43, 2) := by decide +kernel
theorem dX10_sum_37 : decode cX10_sum 37 = .ok (.if_icmp .ne 7, 3) := by decide +kernel
theorem dX10_sum_40 : decode cX10_sum 40 = .ok (.iconst 1, 1) := by decide +kernel
theorem dX10_sum_41 : decode cX10_sum 41 = .ok (.goto 4, 3) := by decide +kernel
theorem dX10_sum_44 : decode cX10_sum 44 = .ok (.iconst 0, 1) := by decide +kernel
theorem dX10_sum_45 : decode cX10_sum 45 = .ok (.istore_n 3, 1) := by decide +kernel
theorem dX10_sum_46 : decode cX10_sum 46 = .ok (.aload_n 0, 1) := by decide +kernel
theorem dX10_sum_47 : decode cX10_sum 47 = .ok (.dup, 1) := by decide +kernel
theorem dX10_sum_48 : decode cX10_sum 48 = .ok (.getfield 116, 3) := by decide +kernel
theorem dX10_sum_51 : decode cX10_sum 51 = .ok (.iconst 1, 1) := by decide +kernel
theorem dX10_sum_52 : decode cX10_sum 52 = .ok (.iadd, 1) := by decide +kernel
theorem dX10_sum_53 : decode cX10_sum 53 = .ok (.putfield 116, 3) := by decide +kernel
theorem dX10_sum_56 : decode cX10_sum 56 = .ok (.aload_n 0, 1) := by decide +kernel
theorem dX10_sum_57 : decode cX10_sum 57 = .ok (.iload_n 1, 1) := by decide +kernel
theorem dX10_sum_58 : decode cX10_sum 58 = .ok (.invokevirtual 168, 3) := by decide +kernel
theorem dX10_sum_61 : decode cX10_sum 61 = .ok (.istore 4, 2) := by decide +kernel
theorem dX10_sum_63 : decode cX10_sum 63 = .ok (.iload_n 3, 1) := by decide +kernel
theorem dX10_sum_64 : decode cX10_sum 64 = .ok (.ifCond .eq 10, 3) := by decide +kernel
theorem dX10_sum_67 : decode cX10_sum 67 = .ok (.iload_n 2, 1) := by decide +kernel
theorem dX10_sum_68 : decode cX10_sum 68 = .ok (.iload 4, 2) := by decide +kernel
theorem dX10_sum_70 : decode cX10_sum 70 = .ok (.iadd, 1) := by decide +kernel
theorem dX10_sum_71 : decode cX10_sum 71 = .ok (.goto 7, 3) := by decide +kernel
theorem dX10_sum_74 : decode cX10_sum 74 = .ok (.iload_n 2, 1) := by decide +kernel
theorem dX10_sum_75 : decode cX10_sum 75 = .ok (.iload 4, 2) := by decide +kernel
theorem dX10_sum_77 : decode cX10_sum 77 = .ok (.isub, 1) := by decide +kernel
theorem dX10_sum_78 : decode cX10_sum 78 = .ok (.istore_n 2, 1) := by decide +kernel
theorem dX10_sum_79 : decode cX10_sum 79 = .ok (.goto (-73), 3) := by decide +kernel
theorem dX10_sum_82 : decode cX10_sum 82 = .ok (.iload_n 2, 1) := by decide +kernel
theorem dX10_sum_83 : decode cX10_sum 83 = .ok (.ireturn, 1) := by decide +kernel
theorem dX10_held_0 : decode cX10_held 0 = .ok (.aload_n 0, 1) := by decide +kernel
theorem dX10_held_1 : decode cX10_held 1 = .ok (.iload_n 1, 1) := by decide +kernel
theorem dX10_held_2 : decode cX10_held 2 = .ok (.invokevirtual 165, 3) := by decide +kernel
theorem dX10_held_5 : decode cX10_held 5 = .ok (.istore_n 2, 1) := by decide +kernel
theorem dX10_held_6 : decode cX10_held 6 = .ok (.aload_n 0, 1) := by decide +kernel
theorem dX10_held_7 : decode cX10_held 7 = .ok (.bipush 60, 2) := by decide +kernel
theorem dX10_held_9 : decode cX10_held 9 = .ok (.invokevirtual 130, 3) := by decide +kernel
theorem dX10_held_12 : decode cX10_held 12 = .ok (.ifCond .eq 18, 3) := by decide +kernel
theorem dX10_held_15 : decode cX10_held 15 = .ok (.iload_n 2, 1) := by decide +kernel
theorem dX10_held_16 : decode cX10_held 16 = .ok (.aload_n 0, 1) := by decide +kernel
theorem dX10_held_17 : decode cX10_held 17 = .ok (.iload_n 1, 1) := by decide +kernel
theorem dX10_held_18 : decode cX10_held 18 = .ok (.invokevirtual 165, 3) := by decide +kernel
theorem dX10_held_21 : decode cX10_held 21 = .ok (.if_icmp .ge 7, 3) := by decide +kernel
theorem dX10_held_24 : decode cX10_held 24 = .ok (.iconst 1, 1) := by decide +kernel
theorem dX10_held_25 : decode cX10_held 25 = .ok (.goto 4, 3) := by decide +kernel
theorem dX10_held_28 : decode cX10_held 28 = .ok (.iconst 0, 1) := by decide +kernel
theorem dX10_held_29 : decode cX10_held 29 = .ok (.ireturn, 1) := by decide +kernel
theorem dX10_held_30 : decode cX10_held 30 = .ok (.aload_n 0, 1) := by decide +kernel
theorem dX10_held_31 : decode cX10_held 31 = .ok (.bipush 62, 2) := by decide +kernel
theorem dX10_held_33 : decode cX10_held 33 = .ok (.invokevirtual 130, 3) := by decide +kernel
theorem dX10_held_36 : decode cX10_held 36 = .ok (.ifCond .eq 18, 3) := by decide +kernel
theorem dX10_held_39 : decode cX10_held 39 = .ok (.iload_n 2, 1) := by decide +kernel
theorem dX10_held_40 : decode cX10_held 40 = .ok (.aload_n 0, 1) := by decide +kernel
theorem dX10_held_41 : decode cX10_held 41 = .ok (.iload_n 1, 1) := by decide +kernel
theorem dX10_held_42 : decode cX10_held 42 = .ok (.invokevirtual 165, 3) := by decide +kernel
theorem dX10_held_45 : decode cX10_held 45 = .ok (.if_icmp .le 7, 3) := by decide +kernel
theorem dX10_held_48 : decode cX10_held 48 = .ok (.iconst 1, 1) := by decide +kernel
theorem dX10_held_49 : decode cX10_held 49 = .ok (.goto 4, 3) := by decide +kernel
theorem dX10_held_52 : decode cX10_held 52 = .ok (.iconst 0, 1) := by decide +kernel
theorem dX10_held_53 : decode cX10_held 53 = .ok (.ireturn, 1) := by decide +kernel
theorem dX10_held_54 : decode cX10_held 54 = .ok (.aload_n 0, 1) := by decide +kernel
theorem dX10_held_55 : decode cX10_held 55 = .ok (.bipush 61, 2) := by decide +kernel
theorem dX10_held_57 : decode cX10_held 57 = .ok (.invokevirtual 130, 3) := by decide +kernel
theorem dX10_held_60 : decode cX10_held 60 = .ok (.ifCond .eq 18, 3) := by decide +kernel
theorem dX10_held_63 : decode cX10_held 63 = .ok (.iload_n 2, 1) := by decide +kernel
theorem dX10_held_64 : decode cX10_held 64 = .ok (.aload_n 0, 1) := by decide +kernel
theorem dX10_held_65 : decode cX10_held 65 = .ok (.iload_n 1, 1) := by decide +kernel
theorem dX10_held_66 : decode cX10_held 66 = .ok (.invokevirtual 165, 3) := by decide +kernel
theorem dX10_held_69 : decode cX10_held 69 = .ok (.if_icmp .ne 7, 3) := by decide +kernel
theorem dX10_held_72 : decode cX10_held 72 = .ok (.iconst 1, 1) := by decide +kernel
theorem dX10_held_73 : decode cX10_held 73 = .ok (.goto 4, 3) := by decide +kernel
theorem dX10_held_76 : decode cX10_held 76 = .ok (.iconst 0, 1) := by decide +kernel
theorem dX10_held_77 : decode cX10_held 77 = .ok (.ireturn, 1) := by decide +kernel
theorem dX10_held_78 : decode cX10_held 78 = .ok (.iload_n 2, 1) := by decide +kernel
theorem dX10_held_79 : decode cX10_held 79 = .ok (.ireturn, 1) := by decide +kernel
theorem dX10_rule_0 : decode cX10_rule 0 = .ok (.aload_n 0, 1) := by decide +kernel
theorem dX10_rule_1 : decode cX10_rule 1 = .ok (.iconst 0, 1) := by decide +kernel
theorem dX10_rule_2 : decode cX10_rule 2 = .ok (.putfield 87, 3) := by decide +kernel
theorem dX10_rule_5 : decode cX10_rule 5 = .ok (.aload_n 0, 1) := by decide +kernel
theorem dX10_rule_6 : decode cX10_rule 6 = .ok (.getfield 104, 3) := by decide +kernel
theorem dX10_rule_9 : decode cX10_rule 9 = .ok (.istore_n 1, 1) := by decide +kernel
theorem dX10_rule_10 : decode cX10_rule 10 = .ok (.aload_n 0, 1) := by decide +kernel
theorem dX10_rule_11 : decode cX10_rule 11 = .ok (.aload_n 0, 1) := by decide +kernel
theorem dX10_rule_12 : decode cX10_rule 12 = .ok (.getfield 34, 3) := by decide +kernel
theorem dX10_rule_15 : decode cX10_rule 15 = .ok (.iload_n 1, 1) := by decide +kernel
theorem dX10_rule_16 : decode cX10_rule 16 = .ok (.bipush 40, 2) := by decide +kernel
theorem dX10_rule_18 : decode cX10_rule 18 = .ok (.invokevirtual 152, 3) := by decide +kernel
theorem dX10_rule_21 : decode cX10_rule 21 = .ok (.aload_n 0, 1) := by decide +kernel
theorem dX10_rule_22 : decode cX10_rule 22 = .ok (.iconst 0, 1) := by decide +kernel
theorem dX10_rule_23 : decode cX10_rule 23 = .ok (.putfield 104, 3) := by decide +kernel
theorem dX10_rule_26 : decode cX10_rule 26 = .ok (.aload_n 0, 1) := by decide +kernel
theorem dX10_rule_27 : decode cX10_rule 27 = .ok (.iconst 0, 1) := by decide +kernel
theorem dX10_rule_28 : decode cX10_rule 28 = .ok (.putfield 177, 3) := by decide +kernel
theorem dX10_rule_31 : decode cX10_rule 31 = .ok (.iload_n 1, 1) := by decide +kernel
theorem dX10_rule_32 : decode cX10_rule 32 = .ok (.ifCond .le 39, 3) := by decide +kernel
theorem dX10_rule_35 : decode cX10_rule 35 = .ok (.aload_n 0, 1) := by decide +kernel
theorem dX10_rule_36 : decode cX10_rule 36 = .ok (.iconst 0, 1) := by decide +kernel
theorem dX10_rule_37 : decode cX10_rule 37 = .ok (.invokevirtual 174, 3) := by decide +kernel
theorem dX10_rule_40 : decode cX10_rule 40 = .ok (.pop, 1) := by decide +kernel
theorem dX10_rule_41 : decode cX10_rule 41 = .ok (.aload_n 0, 1) := by decide +kernel
theorem dX10_rule_42 : decode cX10_rule 42 = .ok (.getfield 116, 3) := by decide +kernel
theorem dX10_rule_45 : decode cX10_rule 45 = .ok (.iload_n 1, 1) := by decide +kernel
theorem dX10_rule_46 : decode cX10_rule 46 = .ok (.if_icmp .ge 11, 3) := by decide +kernel
theorem dX10_rule_49 : decode cX10_rule 49 = .ok (.aload_n 0, 1) := by decide +kernel
theorem dX10_rule_50 : decode cX10_rule 50 = .ok (.aload_n 0, 1) := by decide +kernel
theorem dX10_rule_51 : decode cX10_rule 51 = .ok (.getfield 116, 3) := by decide +kernel
theorem dX10_rule_54 : decode cX10_rule 54 = .ok (.invokevirtual 134, 3) := by decide +kernel
theorem dX10_rule_57 : decode cX10_rule 57 = .ok (.aload_n 0, 1) := by decide +kernel
theorem dX10_rule_58 : decode cX10_rule 58 = .ok (.invokevirtual 122, 3) := by decide +kernel
theorem dX10_rule_61 : decode cX10_rule 61 = .ok (.ifCond .ne 10, 3) := by decide +kernel
theorem dX10_rule_64 : decode cX10_rule 64 = .ok (.iconst (-1), 1) := by decide +kernel
theorem dX10_rule_65 : decode cX10_rule 65 = .ok (.aload_n 0, 1) := by decide +kernel
theorem dX10_rule_66 : decode cX10_rule 66 = .ok (.getfield 119, 3) := by decide +kernel
theorem dX10_rule_69 : decode cX10_rule 69 = .ok (.isub, 1) := by decide +kernel
theorem dX10_rule_70 : decode cX10_rule 70 = .ok (.ireturn, 1) := by decide +kernel
theorem dX10_rule_71 : decode cX10_rule 71 = .ok (.iconst 0, 1) := by decide +kernel
theorem dX10_rule_72 : decode cX10_rule 72 = .ok (.istore_n 2, 1) := by decide +kernel
theorem dX10_rule_73 : decode cX10_rule 73 = .ok (.iload_n 2, 1) := by decide +kernel
theorem dX10_rule_74 : decode cX10_rule 74 = .ok (.iload_n 1, 1) := by decide +kernel
theorem dX10_rule_75 : decode cX10_rule 75 = .ok (.if_icmp .ge 21, 3) := by decide +kernel
theorem dX10_rule_78 : decode cX10_rule 78 = .ok (.aload_n 0, 1) := by decide +kernel
theorem dX10_rule_79 : decode cX10_rule 79 = .ok (.getfield 47, 3) := by decide +kernel
theorem dX10_rule_82 : decode cX10_rule 82 = .ok (.iload_n 2, 1) := by decide +kernel
theorem dX10_rule_83 : decode cX10_rule 83 = .ok (.aload_n 0, 1) := by decide +kernel
theorem dX10_rule_84 : decode cX10_rule 84 = .ok (.getfield 34, 3) := by decide +kernel
theorem dX10_rule_87 : decode cX10_rule 87 = .ok (.iload_n 2, 1) := by decide +kernel
theorem dX10_rule_88 : decode cX10_rule 88 = .ok (.baload, 1) := by decide +kernel
theorem dX10_rule_89 : decode cX10_rule 89 = .ok (.bastore, 1) := by decide +kernel
theorem dX10_rule_90 : decode cX10_rule 90 = .ok (.iinc 2 1, 3) := by decide +kernel
theorem dX10_rule_93 : decode cX10_rule 93 = .ok (.goto (-20), 3) := by decide +kernel
theorem dX10_rule_96 : decode cX10_rule 96 = .ok (.aload_n 0, 1) := by decide +kernel
theorem dX10_rule_97 : decode cX10_rule 97 = .ok (.iload_n 1, 1) := by decide +kernel
theorem dX10_rule_98 : decode cX10_rule 98 = .ok (.putfield 203, 3) := by decide +kernel
theorem dX10_rule_101 : decode cX10_rule 101 = .ok (.iconst 0, 1) := by decide +kernel
theorem dX10_rule_102 : decode cX10_rule 102 = .ok (.ireturn, 1) := by decide +kernel
theorem dX10_isFruit_0 : decode cX10_isFruit 0 = .ok (.iload_n 1, 1) := by decide +kernel
theorem dX10_isFruit_1 : decode cX10_isFruit 1 = .ok (.iconst 0, 1) := by decide +kernel
theorem dX10_isFruit_2 : decode cX10_isFruit 2 = .ok (.aload_n 0, 1) := by decide +kernel
theorem dX10_isFruit_3 : decode cX10_isFruit 3 = .ok (.getfield 94, 3) := by decide +kernel
theorem dX10_isFruit_6 : decode cX10_isFruit 6 = .ok (.iconst 1, 1) := by decide +kernel
theorem dX10_isFruit_7 : decode cX10_isFruit 7 = .ok (.isub, 1) := by decide +kernel
theorem dX10_isFruit_8 : decode cX10_isFruit 8 = .ok (.invokestatic 97, 3) := by decide +kernel
theorem dX10_isFruit_11 : decode cX10_isFruit 11 = .ok (.ireturn, 1) := by decide +kernel
theorem dX10_which_0 : decode cX10_which 0 = .ok (.iconst 0, 1) := by decide +kernel
theorem dX10_which_1 : decode cX10_which 1 = .ok (.istore_n 3, 1) := by decide +kernel
theorem dX10_which_2 : decode cX10_which 2 = .ok (.iconst 0, 1) := by decide +kernel
theorem dX10_which_3 : decode cX10_which 3 = .ok (.istore 4, 2) := by decide +kernel
theorem dX10_which_5 : decode cX10_which 5 = .ok (.iload 4, 2) := by decide +kernel
theorem dX10_which_7 : decode cX10_which 7 = .ok (.aload_n 0, 1) := by decide +kernel
theorem dX10_which_8 : decode cX10_which 8 = .ok (.getfield 94, 3) := by decide +kernel
theorem dX10_which_11 : decode cX10_which 11 = .ok (.if_icmp .ge 28, 3) := by decide +kernel
theorem dX10_which_14 : decode cX10_which 14 = .ok (.iload_n 3, 1) := by decide +kernel
theorem dX10_which_15 : decode cX10_which 15 = .ok (.aload_n 1, 1) := by decide +kernel
theorem dX10_which_16 : decode cX10_which 16 = .ok (.iload 4, 2) := by decide +kernel
theorem dX10_which_18 : decode cX10_which 18 = .ok (.iaload, 1) := by decide +kernel
theorem dX10_which_19 : decode cX10_which 19 = .ok (.iload_n 2, 1) := by decide +kernel
theorem dX10_which_20 : decode cX10_which 20 = .ok (.if_icmp .ne 10, 3) := by decide +kernel
theorem dX10_which_23 : decode cX10_which 23 = .ok (.iconst 1, 1) := by decide +kernel
theorem dX10_which_24 : decode cX10_which 24 = .ok (.iload 4, 2) := by decide +kernel
theorem dX10_which_26 : decode cX10_which 26 = .ok (.ishl, 1) := by decide +kernel
theorem dX10_which_27 : decode cX10_which 27 = .ok (.goto 4, 3) := by decide +kernel
theorem dX10_which_30 : decode cX10_which 30 = .ok (.iconst 0, 1) := by decide +kernel
theorem dX10_which_31 : decode cX10_which 31 = .ok (.ior, 1) := by decide +kernel
theorem dX10_which_32 : decode cX10_which 32 = .ok (.istore_n 3, 1) := by decide +kernel
theorem dX10_which_33 : decode cX10_which 33 = .ok (.iinc 4 1, 3) := by decide +kernel
theorem dX10_which_36 : decode cX10_which 36 = .ok (.goto (-31), 3) := by decide +kernel
theorem dX10_which_39 : decode cX10_which 39 = .ok (.iload_n 3, 1) := by decide +kernel
theorem dX10_which_40 : decode cX10_which 40 = .ok (.ireturn, 1) := by decide +kernel
theorem dX10_has_0 : decode cX10_has 0 = .ok (.iload_n 0, 1) := by decide +kernel
theorem dX10_has_1 : decode cX10_has 1 = .ok (.iload_n 1, 1) := by decide +kernel
theorem dX10_has_2 : decode cX10_has 2 = .ok (.ishr, 1) := by decide +kernel
theorem dX10_has_3 : decode cX10_has 3 = .ok (.iconst 1, 1) := by decide +kernel
theorem dX10_has_4 : decode cX10_has 4 = .ok (.iand, 1) := by decide +kernel
theorem dX10_has_5 : decode cX10_has 5 = .ok (.iconst 1, 1) := by decide +kernel
theorem dX10_has_6 : decode cX10_has 6 = .ok (.if_icmp .ne 7, 3) := by decide +kernel
theorem dX10_has_9 : decode cX10_has 9 = .ok (.iconst 1, 1) := by decide +kernel
theorem dX10_has_10 : decode cX10_has 10 = .ok (.goto 4, 3) := by decide +kernel
theorem dX10_has_13 : decode cX10_has 13 = .ok (.iconst 0, 1) := by decide +kernel
theorem dX10_has_14 : decode cX10_has 14 = .ok (.ireturn, 1) := by decide +kernel
theorem dX10_isBelow_0 : decode cX10_isBelow 0 = .ok (.aload_n 0, 1) := by decide +kernel
theorem dX10_isBelow_1 : decode cX10_isBelow 1 = .ok (.getfield 13, 3) := by decide +kernel
theorem dX10_isBelow_4 : decode cX10_isBelow 4 = .ok (.iload_n 2, 1) := by decide +kernel
theorem dX10_isBelow_5 : decode cX10_isBelow 5 = .ok (.iaload, 1) := by decide +kernel
theorem dX10_isBelow_6 : decode cX10_isBelow 6 = .ok (.aload_n 0, 1) := by decide +kernel
theorem dX10_isBelow_7 : decode cX10_isBelow 7 = .ok (.getfield 13, 3) := by decide +kernel
theorem dX10_isBelow_10 : decode cX10_isBelow 10 = .ok (.iload_n 1, 1) := by decide +kernel
theorem dX10_isBelow_11 : decode cX10_isBelow 11 = .ok (.iaload, 1) := by decide +kernel
theorem dX10_isBelow_12 : decode cX10_isBelow 12 = .ok (.isub, 1) := by decide +kernel
theorem dX10_isBelow_13 : decode cX10_isBelow 13 = .ok (.invokestatic 206, 3) := by decide +kernel
theorem dX10_isBelow_16 : decode cX10_isBelow 16 = .ok (.iconst 1, 1) := by decide +kernel
theorem dX10_isBelow_17 : decode cX10_isBelow 17 = .ok (.if_icmp .gt 22, 3) := by decide +kernel
theorem dX10_isBelow_20 : decode cX10_isBelow 20 = .ok (.aload_n 0, 1) := by decide +kernel
theorem dX10_isBelow_21 : decode cX10_isBelow 21 = .ok (.getfield 16, 3) := by decide +kernel
theorem dX10_isBelow_24 : decode cX10_isBelow 24 = .ok (.iload_n 1, 1) := by decide +kernel
theorem dX10_isBelow_25 : decode cX10_isBelow 25 = .ok (.iaload, 1) := by decide +kernel
theorem dX10_isBelow_26 : decode cX10_isBelow 26 = .ok (.aload_n 0, 1) := by decide +kernel
theorem dX10_isBelow_27 : decode cX10_isBelow 27 = .ok (.getfield 16, 3) := by decide +kernel
theorem dX10_isBelow_30 : decode cX10_isBelow 30 = .ok (.iload_n 2, 1) := by decide +kernel
theorem dX10_isBelow_31 : decode cX10_isBelow 31 = .ok (.iaload, 1) := by decide +kernel
theorem dX10_isBelow_32 : decode cX10_isBelow 32 = .ok (.if_icmp .ge 7, 3) := by decide +kernel
theorem dX10_isBelow_35 : decode cX10_isBelow 35 = .ok (.iconst 1, 1) := by decide +kernel
theorem dX10_isBelow_36 : decode cX10_isBelow 36 = .ok (.goto 4, 3) := by decide +kernel
theorem dX10_isBelow_39 : decode cX10_isBelow 39 = .ok (.iconst 0, 1) := by decide +kernel
theorem dX10_isBelow_40 : decode cX10_isBelow 40 = .ok (.ireturn, 1) := by decide +kernel
theorem dX10_below_0 : decode cX10_below 0 = .ok (.iconst 0, 1) := by decide +kernel
theorem dX10_below_1 : decode cX10_below 1 = .ok (.istore_n 3, 1) := by decide +kernel
theorem dX10_below_2 : decode cX10_below 2 = .ok (.iconst 0, 1) := by decide +kernel
theorem dX10_below_3 : decode cX10_below 3 = .ok (.istore 4, 2) := by decide +kernel
theorem dX10_below_5 : decode cX10_below 5 = .ok (.iload 4, 2) := by decide +kernel
theorem dX10_below_7 : decode cX10_below 7 = .ok (.aload_n 0, 1) := by decide +kernel
theorem dX10_below_8 : decode cX10_below 8 = .ok (.getfield 94, 3) := by decide +kernel
theorem dX10_below_11 : decode cX10_below 11 = .ok (.if_icmp .ge 39, 3) := by decide +kernel
theorem dX10_below_14 : decode cX10_below 14 = .ok (.iload_n 3, 1) := by decide +kernel
theorem dX10_below_15 : decode cX10_below 15 = .ok (.iload_n 2, 1) := by decide +kernel
theorem dX10_below_16 : decode cX10_below 16 = .ok (.iload 4, 2) := by decide +kernel
theorem dX10_below_18 : decode cX10_below 18 = .ok (.invokestatic 227, 3) := by decide +kernel
theorem dX10_below_21 : decode cX10_below 21 = .ok (.ifCond .eq 20, 3) := by decide +kernel
theorem dX10_below_24 : decode cX10_below 24 = .ok (.aload_n 0, 1) := by decide +kernel
theorem dX10_below_25 : decode cX10_below 25 = .ok (.iload 4, 2) := by decide +kernel
theorem dX10_below_27 : decode cX10_below 27 = .ok (.iload_n 1, 1) := by decide +kernel
theorem dX10_below_28 : decode cX10_below 28 = .ok (.invokevirtual 231, 3) := by decide +kernel
theorem dX10_below_31 : decode cX10_below 31 = .ok (.ifCond .eq 10, 3) := by decide +kernel
theorem dX10_below_34 : decode cX10_below 34 = .ok (.iconst 1, 1) := by decide +kernel
theorem dX10_below_35 : decode cX10_below 35 = .ok (.iload 4, 2) := by decide +kernel
theorem dX10_below_37 : decode cX10_below 37 = .ok (.ishl, 1) := by decide +kernel
theorem dX10_below_38 : decode cX10_below 38 = .ok (.goto 4, 3) := by decide +kernel
theorem dX10_below_41 : decode cX10_below 41 = .ok (.iconst 0, 1) := by decide +kernel
theorem dX10_below_42 : decode cX10_below 42 = .ok (.ior, 1) := by decide +kernel
theorem dX10_below_43 : decode cX10_below 43 = .ok (.istore_n 3, 1) := by decide +kernel
theorem dX10_below_44 : decode cX10_below 44 = .ok (.iinc 4 1, 3) := by decide +kernel
theorem dX10_below_47 : decode cX10_below 47 = .ok (.goto (-42), 3) := by decide +kernel
theorem dX10_below_50 : decode cX10_below 50 = .ok (.iload_n 3, 1) := by decide +kernel
theorem dX10_below_51 : decode cX10_below 51 = .ok (.ireturn, 1) := by decide +kernel
theorem dX10_lost_0 : decode cX10_lost 0 = .ok (.aload_n 0, 1) := by decide +kernel
theorem dX10_lost_1 : decode cX10_lost 1 = .ok (.iconst 1, 1) := by decide +kernel
theorem dX10_lost_2 : decode cX10_lost 2 = .ok (.putfield 87, 3) := by decide +kernel
theorem dX10_lost_5 : decode cX10_lost 5 = .ok (.iconst 0, 1) := by decide +kernel
theorem dX10_lost_6 : decode cX10_lost 6 = .ok (.ireturn, 1) := by decide +kernel
theorem dX10_fruit_0 : decode cX10_fruit 0 = .ok (.aload_n 0, 1) := by decide +kernel
theorem dX10_fruit_1 : decode cX10_fruit 1 = .ok (.iconst 0, 1) := by decide +kernel
theorem dX10_fruit_2 : decode cX10_fruit 2 = .ok (.putfield 87, 3) := by decide +kernel
theorem dX10_fruit_5 : decode cX10_fruit 5 = .ok (.aload_n 0, 1) := by decide +kernel
theorem dX10_fruit_6 : decode cX10_fruit 6 = .ok (.iload_n 1, 1) := by decide +kernel
theorem dX10_fruit_7 : decode cX10_fruit 7 = .ok (.invokevirtual 237, 3) := by decide +kernel
theorem dX10_fruit_10 : decode cX10_fruit 10 = .ok (.ifCond .eq 13, 3) := by decide +kernel
theorem dX10_fruit_13 : decode cX10_fruit 13 = .ok (.iload_n 2, 1) := by decide +kernel
theorem dX10_fruit_14 : decode cX10_fruit 14 = .ok (.iconst 0, 1) := by decide +kernel
theorem dX10_fruit_15 : decode cX10_fruit 15 = .ok (.bipush 6, 2) := by decide +kernel
theorem dX10_fruit_17 : decode cX10_fruit 17 = .ok (.invokestatic 97, 3) := by decide +kernel
theorem dX10_fruit_20 : decode cX10_fruit 20 = .ok (.ifCond .ne 8, 3) := by decide +kernel
theorem dX10_fruit_23 : decode cX10_fruit 23 = .ok (.aload_n 0, 1) := by decide +kernel
theorem dX10_fruit_24 : decode cX10_fruit 24 = .ok (.invokevirtual 241, 3) := by decide +kernel
theorem dX10_fruit_27 : decode cX10_fruit 27 = .ok (.ireturn, 1) := by decide +kernel
theorem dX10_fruit_28 : decode cX10_fruit 28 = .ok (.iload_n 2, 1) := by decide +kernel
theorem dX10_fruit_29 : decode cX10_fruit 29 = .ok (.tableswitch 86 0 5 #[39, 46, 53, 60, 67, 74], 39) := by decide +kernel
theorem dX10_fruit_68 : decode cX10_fruit 68 = .ok (.aload_n 0, 1) := by decide +kernel
theorem dX10_fruit_69 : decode cX10_fruit 69 = .ok (.getfield 13, 3) := by decide +kernel
theorem dX10_fruit_72 : decode cX10_fruit 72 = .ok (.iload_n 1, 1) := by decide +kernel
theorem dX10_fruit_73 : decode cX10_fruit 73 = .ok (.iaload, 1) := by decide +kernel
theorem dX10_fruit_74 : decode cX10_fruit 74 = .ok (.ireturn, 1) := by decide +kernel
theorem dX10_fruit_75 : decode cX10_fruit 75 = .ok (.aload_n 0, 1) := by decide +kernel
theorem dX10_fruit_76 : decode cX10_fruit 76 = .ok (.getfield 16, 3) := by decide +kernel
theorem dX10_fruit_79 : decode cX10_fruit 79 = .ok (.iload_n 1, 1) := by decide +kernel
theorem dX10_fruit_80 : decode cX10_fruit 80 = .ok (.iaload, 1) := by decide +kernel
theorem dX10_fruit_81 : decode cX10_fruit 81 = .ok (.ireturn, 1) := by decide +kernel
theorem dX10_fruit_82 : decode cX10_fruit 82 = .ok (.aload_n 0, 1) := by decide +kernel
theorem dX10_fruit_83 : decode cX10_fruit 83 = .ok (.getfield 19, 3) := by decide +kernel
theorem dX10_fruit_86 : decode cX10_fruit 86 = .ok (.iload_n 1, 1) := by decide +kernel
theorem dX10_fruit_87 : decode cX10_fruit 87 = .ok (.iaload, 1) := by decide +kernel
theorem dX10_fruit_88 : decode cX10_fruit 88 = .ok (.ireturn, 1) := by decide +kernel
theorem dX10_fruit_89 : decode cX10_fruit 89 = .ok (.aload_n 0, 1) := by decide +kernel
theorem dX10_fruit_90 : decode cX10_fruit 90 = .ok (.getfield 22, 3) := by decide +kernel
theorem dX10_fruit_93 : decode cX10_fruit 93 = .ok (.iload_n 1, 1) := by decide +kernel
theorem dX10_fruit_94 : decode cX10_fruit 94 = .ok (.iaload, 1) := by decide +kernel
theorem dX10_fruit_95 : decode cX10_fruit 95 = .ok (.ireturn, 1) := by decide +kernel
theorem dX10_fruit_96 : decode cX10_fruit 96 = .ok (.aload_n 0, 1) := by decide +kernel
theorem dX10_fruit_97 : decode cX10_fruit 97 = .ok (.getfield 9, 3) := by decide +kernel
theorem dX10_fruit_100 : decode cX10_fruit 100 = .ok (.iload_n 1, 1) := by decide +kernel
theorem dX10_fruit_101 : decode cX10_fruit 101 = .ok (.iaload, 1) := by decide +kernel
theorem dX10_fruit_102 : decode cX10_fruit 102 = .ok (.ireturn, 1) := by decide +kernel
theorem dX10_fruit_103 : decode cX10_fruit 103 = .ok (.aload_n 0, 1) := by decide +kernel
theorem dX10_fruit_104 : decode cX10_fruit 104 = .ok (.getfield 9, 3) := by decide +kernel
theorem dX10_fruit_107 : decode cX10_fruit 107 = .ok (.bipush 16, 2) := by decide +kernel
theorem dX10_fruit_109 : decode cX10_fruit 109 = .ok (.iaload, 1) := by decide +kernel
theorem dX10_fruit_110 : decode cX10_fruit 110 = .ok (.iload_n 1, 1) := by decide +kernel
theorem dX10_fruit_111 : decode cX10_fruit 111 = .ok (.ishr, 1) := by decide +kernel
theorem dX10_fruit_112 : decode cX10_fruit 112 = .ok (.iconst 1, 1) := by decide +kernel
theorem dX10_fruit_113 : decode cX10_fruit 113 = .ok (.iand, 1) := by decide +kernel
theorem dX10_fruit_114 : decode cX10_fruit 114 = .ok (.ireturn, 1) := by decide +kernel
theorem dX10_fruit_115 : decode cX10_fruit 115 = .ok (.aload_n 0, 1) := by decide +kernel
theorem dX10_fruit_116 : decode cX10_fruit 116 = .ok (.getfield 9, 3) := by decide +kernel
theorem dX10_fruit_119 : decode cX10_fruit 119 = .ok (.iload_n 1, 1) := by decide +kernel
theorem dX10_fruit_120 : decode cX10_fruit 120 = .ok (.iaload, 1) := by decide +kernel
theorem dX10_fruit_121 : decode cX10_fruit 121 = .ok (.ifCond .ne 20, 3) := by decide +kernel
theorem dX10_fruit_124 : decode cX10_fruit 124 = .ok (.aload_n 0, 1) := by decide +kernel
theorem dX10_fruit_125 : decode cX10_fruit 125 = .ok (.iload_n 1, 1) := by decide +kernel
theorem dX10_fruit_126 : decode cX10_fruit 126 = .ok (.aload_n 0, 1) := by decide +kernel
theorem dX10_fruit_127 : decode cX10_fruit 127 = .ok (.aload_n 0, 1) := by decide +kernel
theorem dX10_fruit_128 : decode cX10_fruit 128 = .ok (.getfield 9, 3) := by decide +kernel
theorem dX10_fruit_131 : decode cX10_fruit 131 = .ok (.iconst 0, 1) := by decide +kernel
theorem dX10_fruit_132 : decode cX10_fruit 132 = .ok (.invokevirtual 244, 3) := by decide +kernel
theorem dX10_fruit_135 : decode cX10_fruit 135 = .ok (.invokevirtual 248, 3) := by decide +kernel
theorem dX10_fruit_138 : decode cX10_fruit 138 = .ok (.goto 4, 3) := by decide +kernel
theorem dX10_fruit_141 : decode cX10_fruit 141 = .ok (.iconst 0, 1) := by decide +kernel
theorem dX10_fruit_142 : decode cX10_fruit 142 = .ok (.ireturn, 1) := by decide +kernel
theorem dX10_isStanding_0 : decode cX10_isStanding 0 = .ok (.iload_n 1, 1) := by decide +kernel
theorem dX10_isStanding_1 : decode cX10_isStanding 1 = .ok (.iconst 0, 1) := by decide +kernel
theorem dX10_isStanding_2 : decode cX10_isStanding 2 = .ok (.aload_n 0, 1) := by decide +kernel
theorem dX10_isStanding_3 : decode cX10_isStanding 3 = .ok (.getfield 101, 3) := by decide +kernel
theorem dX10_isStanding_6 : decode cX10_isStanding 6 = .ok (.iconst 1, 1) := by decide +kernel
theorem dX10_isStanding_7 : decode cX10_isStanding 7 = .ok (.isub, 1) := by decide +kernel
theorem dX10_isStanding_8 : decode cX10_isStanding 8 = .ok (.invokestatic 97, 3) := by decide +kernel
theorem dX10_isStanding_11 : decode cX10_isStanding 11 = .ok (.ireturn, 1) := by decide +kernel
theorem dX10_downOf_0 : decode cX10_downOf 0 = .ok (.iconst 3, 1) := by decide +kernel
theorem dX10_downOf_1 : decode cX10_downOf 1 = .ok (.aload_n 0, 1) := by decide +kernel
theorem dX10_downOf_2 : decode cX10_downOf 2 = .ok (.getfield 28, 3) := by decide +kernel
theorem dX10_downOf_5 : decode cX10_downOf 5 = .ok (.iload_n 1, 1) := by decide +kernel
theorem dX10_downOf_6 : decode cX10_downOf 6 = .ok (.iaload, 1) := by decide +kernel
theorem dX10_downOf_7 : decode cX10_downOf 7 = .ok (.bipush 9, 2) := by decide +kernel
theorem dX10_downOf_9 : decode cX10_downOf 9 = .ok (.iadd, 1) := by decide +kernel
theorem dX10_downOf_10 : decode cX10_downOf 10 = .ok (.bipush 10, 2) := by decide +kernel
theorem dX10_downOf_12 : decode cX10_downOf 12 = .ok (.idiv, 1) := by decide +kernel
theorem dX10_downOf_13 : decode cX10_downOf 13 = .ok (.iadd, 1) := by decide +kernel
theorem dX10_downOf_14 : decode cX10_downOf 14 = .ok (.ireturn, 1) := by decide +kernel
theorem dX10_standing_0 : decode cX10_standing 0 = .ok (.aload_n 0, 1) := by decide +kernel
theorem dX10_standing_1 : decode cX10_standing 1 = .ok (.iconst 0, 1) := by decide +kernel
theorem dX10_standing_2 : decode cX10_standing 2 = .ok (.putfield 87, 3) := by decide +kernel
theorem dX10_standing_5 : decode cX10_standing 5 = .ok (.aload_n 0, 1) := by decide +kernel
theorem dX10_standing_6 : decode cX10_standing 6 = .ok (.iload_n 1, 1) := by decide +kernel
theorem dX10_standing_7 : decode cX10_standing 7 = .ok (.invokevirtual 251, 3) := by decide +kernel
theorem dX10_standing_10 : decode cX10_standing 10 = .ok (.ifCond .eq 12, 3) := by decide +kernel
theorem dX10_standing_13 : decode cX10_standing 13 = .ok (.iload_n 2, 1) := by decide +kernel
theorem dX10_standing_14 : decode cX10_standing 14 = .ok (.iconst 0, 1) := by decide +kernel
theorem dX10_standing_15 : decode cX10_standing 15 = .ok (.iconst 2, 1) := by decide +kernel
theorem dX10_standing_16 : decode cX10_standing 16 = .ok (.invokestatic 97, 3) := by decide +kernel
theorem dX10_standing_19 : decode cX10_standing 19 = .ok (.ifCond .ne 8, 3) := by decide +kernel
theorem dX10_standing_22 : decode cX10_standing 22 = .ok (.aload_n 0, 1) := by decide +kernel
theorem dX10_standing_23 : decode cX10_standing 23 = .ok (.invokevirtual 241, 3) := by decide +kernel
theorem dX10_standing_26 : decode cX10_standing 26 = .ok (.ireturn, 1) := by decide +kernel
theorem dX10_standing_27 : decode cX10_standing 27 = .ok (.iload_n 2, 1) := by decide +kernel
theorem dX10_standing_28 : decode cX10_standing 28 = .ok (.ifCond .ne 12, 3) := by decide +kernel
theorem dX10_standing_31 : decode cX10_standing 31 = .ok (.aload_n 0, 1) := by decide +kernel
theorem dX10_standing_32 : decode cX10_standing 32 = .ok (.getfield 25, 3) := by decide +kernel
theorem dX10_standing_35 : decode cX10_standing 35 = .ok (.iload_n 1, 1) := by decide +kernel
theorem dX10_standing_36 : decode cX10_standing 36 = .ok (.iaload, 1) := by decide +kernel
theorem dX10_standing_37 : decode cX10_standing 37 = .ok (.goto 22, 3) := by decide +kernel
theorem dX10_standing_40 : decode cX10_standing 40 = .ok (.iload_n 2, 1) := by decide +kernel
theorem dX10_standing_41 : decode cX10_standing 41 = .ok (.iconst 1, 1) := by decide +kernel
theorem dX10_standing_42 : decode cX10_standing 42 = .ok (.if_icmp .ne 12, 3) := by decide +kernel
theorem dX10_standing_45 : decode cX10_standing 45 = .ok (.aload_n 0, 1) := by decide +kernel
theorem dX10_standing_46 : decode cX10_standing 46 = .ok (.getfield 28, 3) := by decide +kernel
theorem dX10_standing_49 : decode cX10_standing 49 = .ok (.iload_n 1, 1) := by decide +kernel
theorem dX10_standing_50 : decode cX10_standing 50 = .ok (.iaload, 1) := by decide +kernel
theorem dX10_standing_51 : decode cX10_standing 51 = .ok (.goto 8, 3) := by decide +kernel
theorem dX10_standing_54 : decode cX10_standing 54 = .ok (.aload_n 0, 1) := by decide +kernel
theorem dX10_standing_55 : decode cX10_standing 55 = .ok (.iload_n 1, 1) := by decide +kernel
theorem dX10_standing_56 : decode cX10_standing 56 = .ok (.invokevirtual 254, 3) := by decide +kernel
theorem dX10_standing_59 : decode cX10_standing 59 = .ok (.ireturn, 1) := by decide +kernel
theorem dX10_set_0 : decode cX10_set 0 = .ok (.aload_n 0, 1) := by decide +kernel
theorem dX10_set_1 : decode cX10_set 1 = .ok (.iconst 0, 1) := by decide +kernel
theorem dX10_set_2 : decode cX10_set 2 = .ok (.putfield 87, 3) := by decide +kernel
theorem dX10_set_5 : decode cX10_set 5 = .ok (.iload_n 1, 1) := by decide +kernel
theorem dX10_set_6 : decode cX10_set 6 = .ok (.iconst 0, 1) := by decide +kernel
theorem dX10_set_7 : decode cX10_set 7 = .ok (.iconst 4, 1) := by decide +kernel
theorem dX10_set_8 : decode cX10_set 8 = .ok (.invokestatic 97, 3) := by decide +kernel
theorem dX10_set_11 : decode cX10_set 11 = .ok (.ifCond .eq 42, 3) := by decide +kernel
theorem dX10_set_14 : decode cX10_set 14 = .ok (.iload_n 2, 1) := by decide +kernel
theorem dX10_set_15 : decode cX10_set 15 = .ok (.iload_n 1, 1) := by decide +kernel
theorem dX10_set_16 : decode cX10_set 16 = .ok (.iconst 4, 1) := by decide +kernel
theorem dX10_set_17 : decode cX10_set 17 = .ok (.if_icmp .ne 7, 3) := by decide +kernel
theorem dX10_set_20 : decode cX10_set 20 = .ok (.iconst 1, 1) := by decide +kernel
theorem dX10_set_21 : decode cX10_set 21 = .ok (.goto 4, 3) := by decide +kernel
theorem dX10_set_24 : decode cX10_set 24 = .ok (.iconst 0, 1) := by decide +kernel
theorem dX10_set_25 : decode cX10_set 25 = .ok (.iload_n 1, 1) := by decide +kernel
theorem dX10_set_26 : decode cX10_set 26 = .ok (.iconst 4, 1) := by decide +kernel
theorem dX10_set_27 : decode cX10_set 27 = .ok (.if_icmp .ne 8, 3) := by decide +kernel
theorem dX10_set_30 : decode cX10_set 30 = .ok (.bipush 16, 2) := by decide +kernel
theorem dX10_set_32 : decode cX10_set 32 = .ok (.goto 15, 3) := by decide +kernel
theorem dX10_set_35 : decode cX10_set 35 = .ok (.iload_n 1, 1) := by decide +kernel
theorem dX10_set_36 : decode cX10_set 36 = .ok (.iconst 3, 1) := by decide +kernel
theorem dX10_set_37 : decode cX10_set 37 = .ok (.if_icmp .ne 8, 3) := by decide +kernel
theorem dX10_set_40 : decode cX10_set 40 = .ok (.bipush 9, 2) := by decide +kernel
theorem dX10_set_42 : decode cX10_set 42 = .ok (.goto 5, 3) := by decide +kernel
theorem dX10_set_45 : decode cX10_set 45 = .ok (.bipush 30, 2) := by decide +kernel
theorem dX10_set_47 : decode cX10_set 47 = .ok (.invokestatic 97, 3) := by decide +kernel
theorem dX10_set_50 : decode cX10_set 50 = .ok (.ifCond .ne 5, 3) := by decide +kernel
theorem dX10_set_53 : decode cX10_set 53 = .ok (.iconst (-1), 1) := by decide +kernel
theorem dX10_set_54 : decode cX10_set 54 = .ok (.ireturn, 1) := by decide +kernel
theorem dX10_set_55 : decode cX10_set 55 = .ok (.aload_n 0, 1) := by decide +kernel
theorem dX10_set_56 : decode cX10_set 56 = .ok (.getfield 31, 3) := by decide +kernel
theorem dX10_set_59 : decode cX10_set 59 = .ok (.iload_n 1, 1) := by decide +kernel
theorem dX10_set_60 : decode cX10_set 60 = .ok (.iaload, 1) := by decide +kernel
theorem dX10_set_61 : decode cX10_set 61 = .ok (.istore_n 3, 1) := by decide +kernel
theorem dX10_set_62 : decode cX10_set 62 = .ok (.aload_n 0, 1) := by decide +kernel
theorem dX10_set_63 : decode cX10_set 63 = .ok (.getfield 31, 3) := by decide +kernel
theorem dX10_set_66 : decode cX10_set 66 = .ok (.iload_n 1, 1) := by decide +kernel
theorem dX10_set_67 : decode cX10_set 67 = .ok (.iload_n 2, 1) := by decide +kernel
theorem dX10_set_68 : decode cX10_set 68 = .ok (.iastore, 1) := by decide +kernel
theorem dX10_set_69 : decode cX10_set 69 = .ok (.iload_n 3, 1) := by decide +kernel
theorem dX10_set_70 : decode cX10_set 70 = .ok (.ireturn, 1) := by decide +kernel
theorem dX10_sheet_0 : decode cX10_sheet 0 = .ok (.aload_n 0, 1) := by decide +kernel
theorem dX10_sheet_1 : decode cX10_sheet 1 = .ok (.iconst 0, 1) := by decide +kernel
theorem dX10_sheet_2 : decode cX10_sheet 2 = .ok (.putfield 87, 3) := by decide +kernel
theorem dX10_sheet_5 : decode cX10_sheet 5 = .ok (.iload_n 1, 1) := by decide +kernel
theorem dX10_sheet_6 : decode cX10_sheet 6 = .ok (.iconst 0, 1) := by decide +kernel
theorem dX10_sheet_7 : decode cX10_sheet 7 = .ok (.iconst 3, 1) := by decide +kernel
theorem dX10_sheet_8 : decode cX10_sheet 8 = .ok (.invokestatic 97, 3) := by decide +kernel
theorem dX10_sheet_11 : decode cX10_sheet 11 = .ok (.ifCond .eq 9, 3) := by decide +kernel
theorem dX10_sheet_14 : decode cX10_sheet 14 = .ok (.iload_n 2, 1) := by decide +kernel
theorem dX10_sheet_15 : decode cX10_sheet 15 = .ok (.bipush 16, 2) := by decide +kernel
theorem dX10_sheet_17 : decode cX10_sheet 17 = .ok (.if_icmp .le 5, 3) := by decide +kernel
theorem dX10_sheet_20 : decode cX10_sheet 20 = .ok (.iconst (-1), 1) := by decide +kernel
theorem dX10_sheet_21 : decode cX10_sheet 21 = .ok (.ireturn, 1) := by decide +kernel
theorem dX10_sheet_22 : decode cX10_sheet 22 = .ok (.iload_n 1, 1) := by decide +kernel
theorem dX10_sheet_23 : decode cX10_sheet 23 = .ok (.iconst 3, 1) := by decide +kernel
theorem dX10_sheet_24 : decode cX10_sheet 24 = .ok (.if_icmp .ge 10, 3) := by decide +kernel
theorem dX10_sheet_27 : decode cX10_sheet 27 = .ok (.iload_n 2, 1) := by decide +kernel
theorem dX10_sheet_28 : decode cX10_sheet 28 = .ok (.ifCond .ge 6, 3) := by decide +kernel
theorem dX10_sheet_31 : decode cX10_sheet 31 = .ok (.bipush (-2), 2) := by decide +kernel
theorem dX10_sheet_33 : decode cX10_sheet 33 = .ok (.ireturn, 1) := by decide +kernel
theorem dX10_sheet_34 : decode cX10_sheet 34 = .ok (.iconst 0, 1) := by decide +kernel
theorem dX10_sheet_35 : decode cX10_sheet 35 = .ok (.istore 5, 2) := by decide +kernel
theorem dX10_sheet_37 : decode cX10_sheet 37 = .ok (.iload_n 3, 1) := by decide +kernel
theorem dX10_sheet_38 : decode cX10_sheet 38 = .ok (.istore 6, 2) := by decide +kernel
theorem dX10_sheet_40 : decode cX10_sheet 40 = .ok (.iconst 0, 1) := by decide +kernel
theorem dX10_sheet_41 : decode cX10_sheet 41 = .ok (.istore 7, 2) := by decide +kernel
theorem dX10_sheet_43 : decode cX10_sheet 43 = .ok (.iload 7, 2) := by decide +kernel
theorem dX10_sheet_45 : decode cX10_sheet 45 = .ok (.aload_n 0, 1) := by decide +kernel
theorem dX10_sheet_46 : decode cX10_sheet 46 = .ok (.getfield 94, 3) := by decide +kernel
theorem dX10_sheet_49 : decode cX10_sheet 49 = .ok (.if_icmp .ge 86, 3) := by decide +kernel
theorem dX10_sheet_52 : decode cX10_sheet 52 = .ok (.iload_n 1, 1) := by decide +kernel
theorem dX10_sheet_53 : decode cX10_sheet 53 = .ok (.ifCond .ne 9, 3) := by decide +kernel
theorem dX10_sheet_56 : decode cX10_sheet 56 = .ok (.iload 6, 2) := by decide +kernel
theorem dX10_sheet_58 : decode cX10_sheet 58 = .ok (.i2b, 1) := by decide +kernel
theorem dX10_sheet_59 : decode cX10_sheet 59 = .ok (.goto 16, 3) := by decide +kernel
theorem dX10_sheet_62 : decode cX10_sheet 62 = .ok (.iload_n 1, 1) := by decide +kernel
theorem dX10_sheet_63 : decode cX10_sheet 63 = .ok (.iconst 1, 1) := by decide +kernel
theorem dX10_sheet_64 : decode cX10_sheet 64 = .ok (.if_icmp .ne 9, 3) := by decide +kernel
theorem dX10_sheet_67 : decode cX10_sheet 67 = .ok (.iload 6, 2) := by decide +kernel
theorem dX10_sheet_69 : decode cX10_sheet 69 = .ok (.i2s, 1) := by decide +kernel
theorem dX10_sheet_70 : decode cX10_sheet 70 = .ok (.goto 5, 3) := by decide +kernel
theorem dX10_sheet_73 : decode cX10_sheet 73 = .ok (.iload 6, 2) := by decide +kernel
theorem dX10_sheet_75 : decode cX10_sheet 75 = .ok (.istore 8, 2) := by decide +kernel
theorem dX10_sheet_77 : decode cX10_sheet 77 = .ok (.aload_n 0, 1) := by decide +kernel
theorem dX10_sheet_78 : decode cX10_sheet 78 = .ok (.getfield 19, 3) := by decide +kernel
theorem dX10_sheet_81 : decode cX10_sheet 81 = .ok (.iload 7, 2) := by decide +kernel
theorem dX10_sheet_83 : decode cX10_sheet 83 = .ok (.iload_n 1, 1) := by decide +kernel
theorem dX10_sheet_84 : decode cX10_sheet 84 = .ok (.iconst 3, 1) := by decide +kernel
theorem dX10_sheet_85 : decode cX10_sheet 85 = .ok (.if_icmp .eq 9, 3) := by decide +kernel
theorem dX10_sheet_88 : decode cX10_sheet 88 = .ok (.iload 7, 2) := by decide +kernel
theorem dX10_sheet_90 : decode cX10_sheet 90 = .ok (.iload_n 2, 1) := by decide +kernel
theorem dX10_sheet_91 : decode cX10_sheet 91 = .ok (.if_icmp .lt 7, 3) := by decide +kernel
theorem dX10_sheet_94 : decode cX10_sheet 94 = .ok (.iconst 0, 1) := by decide +kernel
theorem dX10_sheet_95 : decode cX10_sheet 95 = .ok (.goto 14, 3) := by decide +kernel
theorem dX10_sheet_98 : decode cX10_sheet 98 = .ok (.iconst 0, 1) := by decide +kernel
theorem dX10_sheet_99 : decode cX10_sheet 99 = .ok (.bipush 9, 2) := by decide +kernel
theorem dX10_sheet_101 : decode cX10_sheet 101 = .ok (.iload 8, 2) := by decide +kernel
theorem dX10_sheet_103 : decode cX10_sheet 103 = .ok (.invokestatic 224, 3) := by decide +kernel
theorem dX10_sheet_106 : decode cX10_sheet 106 = .ok (.invokestatic 211, 3) := by decide +kernel
theorem dX10_sheet_109 : decode cX10_sheet 109 = .ok (.iastore, 1) := by decide +kernel
theorem dX10_sheet_110 : decode cX10_sheet 110 = .ok (.iload 5, 2) := by decide +kernel
theorem dX10_sheet_112 : decode cX10_sheet 112 = .ok (.aload_n 0, 1) := by decide +kernel
theorem dX10_sheet_113 : decode cX10_sheet 113 = .ok (.getfield 19, 3) := by decide +kernel
theorem dX10_sheet_116 : decode cX10_sheet 116 = .ok (.iload 7, 2) := by decide +kernel
theorem dX10_sheet_118 : decode cX10_sheet 118 = .ok (.iaload, 1) := by decide +kernel
theorem dX10_sheet_119 : decode cX10_sheet 119 = .ok (.iadd, 1) := by decide +kernel
theorem dX10_sheet_120 : decode cX10_sheet 120 = .ok (.istore 5, 2) := by decide +kernel
theorem dX10_sheet_122 : decode cX10_sheet 122 = .ok (.iload 6, 2) := by decide +kernel
theorem dX10_sheet_124 : decode cX10_sheet 124 = .ok (.iload 4, 2) := by decide +kernel
theorem dX10_sheet_126 : decode cX10_sheet 126 = .ok (.iadd, 1) := by decide +kernel
theorem dX10_sheet_127 : decode cX10_sheet 127 = .ok (.istore 6, 2) := by decide +kernel
theorem dX10_sheet_129 : decode cX10_sheet 129 = .ok (.iinc 7 1, 3) := by decide +kernel
theorem dX10_sheet_132 : decode cX10_sheet 132 = .ok (.goto (-89), 3) := by decide +kernel
theorem dX10_sheet_135 : decode cX10_sheet 135 = .ok (.iload_n 1, 1) := by decide +kernel
theorem dX10_sheet_136 : decode cX10_sheet 136 = .ok (.iconst 3, 1) := by decide +kernel
theorem dX10_sheet_137 : decode cX10_sheet 137 = .ok (.if_icmp .ne 8, 3) := by decide +kernel
theorem dX10_sheet_140 : decode cX10_sheet 140 = .ok (.bipush (-3), 2) := by decide +kernel
theorem dX10_sheet_142 : decode cX10_sheet 142 = .ok (.goto 5, 3) := by decide +kernel
theorem dX10_sheet_145 : decode cX10_sheet 145 = .ok (.iload 5, 2) := by decide +kernel
theorem dX10_sheet_147 : decode cX10_sheet 147 = .ok (.ireturn, 1) := by decide +kernel
theorem dX10_refusesMove_0 : decode cX10_refusesMove 0 = .ok (.aload_n 0, 1) := by decide +kernel
theorem dX10_refusesMove_1 : decode cX10_refusesMove 1 = .ok (.iload_n 1, 1) := by decide +kernel
theorem dX10_refusesMove_2 : decode cX10_refusesMove 2 = .ok (.invokevirtual 251, 3) := by decide +kernel
theorem dX10_refusesMove_5 : decode cX10_refusesMove 5 = .ok (.ifCond .ne 7, 3) := by decide +kernel
theorem dX10_refusesMove_8 : decode cX10_refusesMove 8 = .ok (.iconst (-1), 1) := by decide +kernel
theorem dX10_refusesMove_9 : decode cX10_refusesMove 9 = .ok (.goto 20, 3) := by decide +kernel
theorem dX10_refusesMove_12 : decode cX10_refusesMove 12 = .ok (.aload_n 0, 1) := by decide +kernel
theorem dX10_refusesMove_13 : decode cX10_refusesMove 13 = .ok (.getfield 9, 3) := by decide +kernel
theorem dX10_refusesMove_16 : decode cX10_refusesMove 16 = .ok (.bipush 17, 2) := by decide +kernel
theorem dX10_refusesMove_18 : decode cX10_refusesMove 18 = .ok (.iaload, 1) := by decide +kernel
theorem dX10_refusesMove_19 : decode cX10_refusesMove 19 = .ok (.iload_n 1, 1) := by decide +kernel
theorem dX10_refusesMove_20 : decode cX10_refusesMove 20 = .ok (.if_icmp .ne 8, 3) := by decide +kernel
theorem dX10_refusesMove_23 : decode cX10_refusesMove 23 = .ok (.bipush (-2), 2) := by decide +kernel
theorem dX10_refusesMove_25 : decode cX10_refusesMove 25 = .ok (.goto 4, 3) := by decide +kernel
theorem dX10_refusesMove_28 : decode cX10_refusesMove 28 = .ok (.iconst 0, 1) := by decide +kernel
theorem dX10_refusesMove_29 : decode cX10_refusesMove 29 = .ok (.ireturn, 1) := by decide +kernel
theorem dX10_lay_0 : decode cX10_lay 0 = .ok (.iconst 0, 1) := by decide +kernel
theorem dX10_lay_1 : decode cX10_lay 1 = .ok (.istore_n 3, 1) := by decide +kernel
theorem dX10_lay_2 : decode cX10_lay 2 = .ok (.iload_n 3, 1) := by decide +kernel
theorem dX10_lay_3 : decode cX10_lay 3 = .ok (.bipush 21, 2) := by decide +kernel
theorem dX10_lay_5 : decode cX10_lay 5 = .ok (.if_icmp .ge 17, 3) := by decide +kernel
theorem dX10_lay_8 : decode cX10_lay 8 = .ok (.aload_n 1, 1) := by decide +kernel
theorem dX10_lay_9 : decode cX10_lay 9 = .ok (.iload_n 2, 1) := by decide +kernel
theorem dX10_lay_10 : decode cX10_lay 10 = .ok (.iload_n 3, 1) := by decide +kernel
theorem dX10_lay_11 : decode cX10_lay 11 = .ok (.iadd, 1) := by decide +kernel
theorem dX10_lay_12 : decode cX10_lay 12 = .ok (.aload_n 0, 1) := by decide +kernel
theorem dX10_lay_13 : decode cX10_lay 13 = .ok (.iload_n 3, 1) := by decide +kernel
theorem dX10_lay_14 : decode cX10_lay 14 = .ok (.iaload, 1) := by decide +kernel
theorem dX10_lay_15 : decode cX10_lay 15 = .ok (.iastore, 1) := by decide +kernel
theorem dX10_lay_16 : decode cX10_lay 16 = .ok (.iinc 3 1, 3) := by decide +kernel
theorem dX10_lay_19 : decode cX10_lay 19 = .ok (.goto (-17), 3) := by decide +kernel
theorem dX10_lay_22 : decode cX10_lay 22 = .ok (.return_, 1) := by decide +kernel
theorem dX10_remember_0 : decode cX10_remember 0 = .ok (.aload_n 0, 1) := by decide +kernel
theorem dX10_remember_1 : decode cX10_remember 1 = .ok (.getfield 159, 3) := by decide +kernel
theorem dX10_remember_4 : decode cX10_remember 4 = .ok (.bipush 12, 2) := by decide +kernel
theorem dX10_remember_6 : decode cX10_remember 6 = .ok (.if_icmp .ne 43, 3) := by decide +kernel
theorem dX10_remember_9 : decode cX10_remember 9 = .ok (.iconst 0, 1) := by decide +kernel
theorem dX10_remember_10 : decode cX10_remember 10 = .ok (.istore_n 2, 1) := by decide +kernel
theorem dX10_remember_11 : decode cX10_remember 11 = .ok (.iload_n 2, 1) := by decide +kernel
theorem dX10_remember_12 : decode cX10_remember 12 = .ok (.sipush 231, 3) := by decide +kernel
theorem dX10_remember_15 : decode cX10_remember 15 = .ok (.if_icmp .ge 24, 3) := by decide +kernel
theorem dX10_remember_18 : decode cX10_remember 18 = .ok (.aload_n 0, 1) := by decide +kernel
theorem dX10_remember_19 : decode cX10_remember 19 = .ok (.getfield 50, 3) := by decide +kernel
theorem dX10_remember_22 : decode cX10_remember 22 = .ok (.iload_n 2, 1) := by decide +kernel
theorem dX10_remember_23 : decode cX10_remember 23 = .ok (.aload_n 0, 1) := by decide +kernel
theorem dX10_remember_24 : decode cX10_remember 24 = .ok (.getfield 50, 3) := by decide +kernel
theorem dX10_remember_27 : decode cX10_remember 27 = .ok (.iload_n 2, 1) := by decide +kernel
theorem dX10_remember_28 : decode cX10_remember 28 = .ok (.bipush 21, 2) := by decide +kernel
theorem dX10_remember_30 : decode cX10_remember 30 = .ok (.iadd, 1) := by decide +kernel
theorem dX10_remember_31 : decode cX10_remember 31 = .ok (.iaload, 1) := by decide +kernel
theorem dX10_remember_32 : decode cX10_remember 32 = .ok (.iastore, 1) := by decide +kernel
theorem dX10_remember_33 : decode cX10_remember 33 = .ok (.iinc 2 1, 3) := by decide +kernel
theorem dX10_remember_36 : decode cX10_remember 36 = .ok (.goto (-25), 3) := by decide +kernel
theorem dX10_remember_39 : decode cX10_remember 39 = .ok (.aload_n 0, 1) := by decide +kernel
theorem dX10_remember_40 : decode cX10_remember 40 = .ok (.dup, 1) := by decide +kernel
theorem dX10_remember_41 : decode cX10_remember 41 = .ok (.getfield 159, 3) := by decide +kernel
theorem dX10_remember_44 : decode cX10_remember 44 = .ok (.iconst 1, 1) := by decide +kernel
theorem dX10_remember_45 : decode cX10_remember 45 = .ok (.isub, 1) := by decide +kernel
theorem dX10_remember_46 : decode cX10_remember 46 = .ok (.putfield 159, 3) := by decide +kernel
theorem dX10_remember_49 : decode cX10_remember 49 = .ok (.aload_n 1, 1) := by decide +kernel
theorem dX10_remember_50 : decode cX10_remember 50 = .ok (.aload_n 0, 1) := by decide +kernel
theorem dX10_remember_51 : decode cX10_remember 51 = .ok (.getfield 50, 3) := by decide +kernel
theorem dX10_remember_54 : decode cX10_remember 54 = .ok (.bipush 21, 2) := by decide +kernel
theorem dX10_remember_56 : decode cX10_remember 56 = .ok (.aload_n 0, 1) := by decide +kernel
theorem dX10_remember_57 : decode cX10_remember 57 = .ok (.getfield 159, 3) := by decide +kernel
theorem dX10_remember_60 : decode cX10_remember 60 = .ok (.imul, 1) := by decide +kernel
theorem dX10_remember_61 : decode cX10_remember 61 = .ok (.invokestatic 257, 3) := by decide +kernel
theorem dX10_remember_64 : decode cX10_remember 64 = .ok (.aload_n 0, 1) := by decide +kernel
theorem dX10_remember_65 : decode cX10_remember 65 = .ok (.dup, 1) := by decide +kernel
theorem dX10_remember_66 : decode cX10_remember 66 = .ok (.getfield 159, 3) := by decide +kernel
theorem dX10_remember_69 : decode cX10_remember 69 = .ok (.iconst 1, 1) := by decide +kernel
