theorem dJ6_numberOfTrailingZeros_0f7a4_76 : decode cJ6_numberOfTrailingZeros_0f7a4 76 = .ok (.iconst 1, 1) := by decide +kernel
theorem dJ6_numberOfTrailingZeros_0f7a4_77 : decode cJ6_numberOfTrailingZeros_0f7a4 77 = .ok (.iushr, 1) := by decide +kernel
theorem dJ6_numberOfTrailingZeros_0f7a4_78 : decode cJ6_numberOfTrailingZeros_0f7a4 78 = .ok (.iadd, 1) := by decide +kernel
theorem dJ6_numberOfTrailingZeros_0f7a4_79 : decode cJ6_numberOfTrailingZeros_0f7a4 79 = .ok (.ireturn, 1) := by decide +kernel
theorem dX10_isRowAhead_0 : decode cX10_isRowAhead 0 = .ok (.iload_n 0, 1) := by decide +kernel
theorem dX10_isRowAhead_1 : decode cX10_isRowAhead 1 = .ok (.iload_n 1, 1) := by decide +kernel
theorem dX10_isRowAhead_2 : decode cX10_isRowAhead 2 = .ok (.ixor, 1) := by decide +kernel
theorem dX10_isRowAhead_3 : decode cX10_isRowAhead 3 = .ok (.istore_n 2, 1) := by decide +kernel
theorem dX10_isRowAhead_4 : decode cX10_isRowAhead 4 = .ok (.iload_n 0, 1) := by decide +kernel
theorem dX10_isRowAhead_5 : decode cX10_isRowAhead 5 = .ok (.iload_n 2, 1) := by decide +kernel
theorem dX10_isRowAhead_6 : decode cX10_isRowAhead 6 = .ok (.invokestatic 340, 3) := by decide +kernel
theorem dX10_isRowAhead_9 : decode cX10_isRowAhead 9 = .ok (.invokestatic 227, 3) := by decide +kernel
theorem dX10_isRowAhead_12 : decode cX10_isRowAhead 12 = .ok (.ireturn, 1) := by decide +kernel
theorem dX10_cover_0 : decode cX10_cover 0 = .ok (.iconst (-1), 1) := by decide +kernel
theorem dX10_cover_1 : decode cX10_cover 1 = .ok (.istore_n 2, 1) := by decide +kernel
theorem dX10_cover_2 : decode cX10_cover 2 = .ok (.iconst 0, 1) := by decide +kernel
theorem dX10_cover_3 : decode cX10_cover 3 = .ok (.istore_n 3, 1) := by decide +kernel
theorem dX10_cover_4 : decode cX10_cover 4 = .ok (.iload_n 3, 1) := by decide +kernel
theorem dX10_cover_5 : decode cX10_cover 5 = .ok (.aload_n 0, 1) := by decide +kernel
theorem dX10_cover_6 : decode cX10_cover 6 = .ok (.invokevirtual 331, 3) := by decide +kernel
theorem dX10_cover_9 : decode cX10_cover 9 = .ok (.if_icmp .gt 64, 3) := by decide +kernel
theorem dX10_cover_12 : decode cX10_cover 12 = .ok (.iload_n 1, 1) := by decide +kernel
theorem dX10_cover_13 : decode cX10_cover 13 = .ok (.aload_n 0, 1) := by decide +kernel
theorem dX10_cover_14 : decode cX10_cover 14 = .ok (.iload_n 3, 1) := by decide +kernel
theorem dX10_cover_15 : decode cX10_cover 15 = .ok (.invokevirtual 334, 3) := by decide +kernel
theorem dX10_cover_18 : decode cX10_cover 18 = .ok (.iconst (-1), 1) := by decide +kernel
theorem dX10_cover_19 : decode cX10_cover 19 = .ok (.ixor, 1) := by decide +kernel
theorem dX10_cover_20 : decode cX10_cover 20 = .ok (.iand, 1) := by decide +kernel
theorem dX10_cover_21 : decode cX10_cover 21 = .ok (.ifCond .eq 6, 3) := by decide +kernel
theorem dX10_cover_24 : decode cX10_cover 24 = .ok (.goto 43, 3) := by decide +kernel
theorem dX10_cover_27 : decode cX10_cover 27 = .ok (.iload_n 2, 1) := by decide +kernel
theorem dX10_cover_28 : decode cX10_cover 28 = .ok (.iconst (-1), 1) := by decide +kernel
theorem dX10_cover_29 : decode cX10_cover 29 = .ok (.if_icmp .ne 7, 3) := by decide +kernel
theorem dX10_cover_32 : decode cX10_cover 32 = .ok (.iconst (-1), 1) := by decide +kernel
theorem dX10_cover_33 : decode cX10_cover 33 = .ok (.goto 12, 3) := by decide +kernel
theorem dX10_cover_36 : decode cX10_cover 36 = .ok (.iload_n 3, 1) := by decide +kernel
theorem dX10_cover_37 : decode cX10_cover 37 = .ok (.invokestatic 280, 3) := by decide +kernel
theorem dX10_cover_40 : decode cX10_cover 40 = .ok (.iload_n 2, 1) := by decide +kernel
theorem dX10_cover_41 : decode cX10_cover 41 = .ok (.invokestatic 280, 3) := by decide +kernel
theorem dX10_cover_44 : decode cX10_cover 44 = .ok (.isub, 1) := by decide +kernel
theorem dX10_cover_45 : decode cX10_cover 45 = .ok (.istore 4, 2) := by decide +kernel
theorem dX10_cover_47 : decode cX10_cover 47 = .ok (.iload 4, 2) := by decide +kernel
theorem dX10_cover_49 : decode cX10_cover 49 = .ok (.ifCond .lt 16, 3) := by decide +kernel
theorem dX10_cover_52 : decode cX10_cover 52 = .ok (.iload 4, 2) := by decide +kernel
theorem dX10_cover_54 : decode cX10_cover 54 = .ok (.ifCond .ne 13, 3) := by decide +kernel
theorem dX10_cover_57 : decode cX10_cover 57 = .ok (.iload_n 3, 1) := by decide +kernel
theorem dX10_cover_58 : decode cX10_cover 58 = .ok (.iload_n 2, 1) := by decide +kernel
theorem dX10_cover_59 : decode cX10_cover 59 = .ok (.invokestatic 343, 3) := by decide +kernel
theorem dX10_cover_62 : decode cX10_cover 62 = .ok (.ifCond .eq 5, 3) := by decide +kernel
theorem dX10_cover_65 : decode cX10_cover 65 = .ok (.iload_n 3, 1) := by decide +kernel
theorem dX10_cover_66 : decode cX10_cover 66 = .ok (.istore_n 2, 1) := by decide +kernel
theorem dX10_cover_67 : decode cX10_cover 67 = .ok (.iinc 3 1, 3) := by decide +kernel
theorem dX10_cover_70 : decode cX10_cover 70 = .ok (.goto (-66), 3) := by decide +kernel
theorem dX10_cover_73 : decode cX10_cover 73 = .ok (.iload_n 2, 1) := by decide +kernel
theorem dX10_cover_74 : decode cX10_cover 74 = .ok (.ireturn, 1) := by decide +kernel
theorem dX10_tellCover_0 : decode cX10_tellCover 0 = .ok (.aload_n 0, 1) := by decide +kernel
theorem dX10_tellCover_1 : decode cX10_tellCover 1 = .ok (.iload_n 1, 1) := by decide +kernel
theorem dX10_tellCover_2 : decode cX10_tellCover 2 = .ok (.invokevirtual 346, 3) := by decide +kernel
theorem dX10_tellCover_5 : decode cX10_tellCover 5 = .ok (.istore_n 2, 1) := by decide +kernel
theorem dX10_tellCover_6 : decode cX10_tellCover 6 = .ok (.aload_n 0, 1) := by decide +kernel
theorem dX10_tellCover_7 : decode cX10_tellCover 7 = .ok (.iconst 0, 1) := by decide +kernel
theorem dX10_tellCover_8 : decode cX10_tellCover 8 = .ok (.putfield 91, 3) := by decide +kernel
theorem dX10_tellCover_11 : decode cX10_tellCover 11 = .ok (.iconst 0, 1) := by decide +kernel
theorem dX10_tellCover_12 : decode cX10_tellCover 12 = .ok (.istore_n 3, 1) := by decide +kernel
theorem dX10_tellCover_13 : decode cX10_tellCover 13 = .ok (.iload_n 3, 1) := by decide +kernel
theorem dX10_tellCover_14 : decode cX10_tellCover 14 = .ok (.aload_n 0, 1) := by decide +kernel
theorem dX10_tellCover_15 : decode cX10_tellCover 15 = .ok (.getfield 101, 3) := by decide +kernel
theorem dX10_tellCover_18 : decode cX10_tellCover 18 = .ok (.if_icmp .ge 22, 3) := by decide +kernel
theorem dX10_tellCover_21 : decode cX10_tellCover 21 = .ok (.iload_n 2, 1) := by decide +kernel
theorem dX10_tellCover_22 : decode cX10_tellCover 22 = .ok (.iload_n 3, 1) := by decide +kernel
theorem dX10_tellCover_23 : decode cX10_tellCover 23 = .ok (.invokestatic 227, 3) := by decide +kernel
theorem dX10_tellCover_26 : decode cX10_tellCover 26 = .ok (.ifCond .eq 8, 3) := by decide +kernel
theorem dX10_tellCover_29 : decode cX10_tellCover 29 = .ok (.aload_n 0, 1) := by decide +kernel
theorem dX10_tellCover_30 : decode cX10_tellCover 30 = .ok (.iload_n 3, 1) := by decide +kernel
theorem dX10_tellCover_31 : decode cX10_tellCover 31 = .ok (.invokevirtual 322, 3) := by decide +kernel
theorem dX10_tellCover_34 : decode cX10_tellCover 34 = .ok (.iinc 3 1, 3) := by decide +kernel
theorem dX10_tellCover_37 : decode cX10_tellCover 37 = .ok (.goto (-24), 3) := by decide +kernel
theorem dX10_tellCover_40 : decode cX10_tellCover 40 = .ok (.iload_n 2, 1) := by decide +kernel
theorem dX10_tellCover_41 : decode cX10_tellCover 41 = .ok (.invokestatic 280, 3) := by decide +kernel
theorem dX10_tellCover_44 : decode cX10_tellCover 44 = .ok (.ireturn, 1) := by decide +kernel
theorem dX10_fewest_0 : decode cX10_fewest 0 = .ok (.aload_n 0, 1) := by decide +kernel
theorem dX10_fewest_1 : decode cX10_fewest 1 = .ok (.iconst 0, 1) := by decide +kernel
theorem dX10_fewest_2 : decode cX10_fewest 2 = .ok (.putfield 87, 3) := by decide +kernel
theorem dX10_fewest_5 : decode cX10_fewest 5 = .ok (.aload_n 0, 1) := by decide +kernel
theorem dX10_fewest_6 : decode cX10_fewest 6 = .ok (.invokevirtual 349, 3) := by decide +kernel
theorem dX10_fewest_9 : decode cX10_fewest 9 = .ok (.aload_n 0, 1) := by decide +kernel
theorem dX10_fewest_10 : decode cX10_fewest 10 = .ok (.aload_n 0, 1) := by decide +kernel
theorem dX10_fewest_11 : decode cX10_fewest 11 = .ok (.getfield 337, 3) := by decide +kernel
theorem dX10_fewest_14 : decode cX10_fewest 14 = .ok (.invokevirtual 354, 3) := by decide +kernel
theorem dX10_fewest_17 : decode cX10_fewest 17 = .ok (.ireturn, 1) := by decide +kernel
theorem dX10_needed_0 : decode cX10_needed 0 = .ok (.aload_n 0, 1) := by decide +kernel
theorem dX10_needed_1 : decode cX10_needed 1 = .ok (.iconst 0, 1) := by decide +kernel
theorem dX10_needed_2 : decode cX10_needed 2 = .ok (.putfield 87, 3) := by decide +kernel
theorem dX10_needed_5 : decode cX10_needed 5 = .ok (.aload_n 0, 1) := by decide +kernel
theorem dX10_needed_6 : decode cX10_needed 6 = .ok (.invokevirtual 349, 3) := by decide +kernel
theorem dX10_needed_9 : decode cX10_needed 9 = .ok (.iconst 0, 1) := by decide +kernel
theorem dX10_needed_10 : decode cX10_needed 10 = .ok (.istore_n 1, 1) := by decide +kernel
theorem dX10_needed_11 : decode cX10_needed 11 = .ok (.iconst 0, 1) := by decide +kernel
theorem dX10_needed_12 : decode cX10_needed 12 = .ok (.istore_n 2, 1) := by decide +kernel
theorem dX10_needed_13 : decode cX10_needed 13 = .ok (.iconst 0, 1) := by decide +kernel
theorem dX10_needed_14 : decode cX10_needed 14 = .ok (.istore_n 3, 1) := by decide +kernel
theorem dX10_needed_15 : decode cX10_needed 15 = .ok (.iload_n 3, 1) := by decide +kernel
theorem dX10_needed_16 : decode cX10_needed 16 = .ok (.aload_n 0, 1) := by decide +kernel
theorem dX10_needed_17 : decode cX10_needed 17 = .ok (.getfield 94, 3) := by decide +kernel
theorem dX10_needed_20 : decode cX10_needed 20 = .ok (.if_icmp .ge 91, 3) := by decide +kernel
theorem dX10_needed_23 : decode cX10_needed 23 = .ok (.iconst 0, 1) := by decide +kernel
theorem dX10_needed_24 : decode cX10_needed 24 = .ok (.istore 4, 2) := by decide +kernel
theorem dX10_needed_26 : decode cX10_needed 26 = .ok (.iconst 0, 1) := by decide +kernel
theorem dX10_needed_27 : decode cX10_needed 27 = .ok (.istore 5, 2) := by decide +kernel
theorem dX10_needed_29 : decode cX10_needed 29 = .ok (.iload 5, 2) := by decide +kernel
theorem dX10_needed_31 : decode cX10_needed 31 = .ok (.aload_n 0, 1) := by decide +kernel
theorem dX10_needed_32 : decode cX10_needed 32 = .ok (.getfield 101, 3) := by decide +kernel
theorem dX10_needed_35 : decode cX10_needed 35 = .ok (.if_icmp .ge 36, 3) := by decide +kernel
theorem dX10_needed_38 : decode cX10_needed 38 = .ok (.iload 4, 2) := by decide +kernel
theorem dX10_needed_40 : decode cX10_needed 40 = .ok (.aload_n 0, 1) := by decide +kernel
theorem dX10_needed_41 : decode cX10_needed 41 = .ok (.getfield 59, 3) := by decide +kernel
theorem dX10_needed_44 : decode cX10_needed 44 = .ok (.iload 5, 2) := by decide +kernel
theorem dX10_needed_46 : decode cX10_needed 46 = .ok (.iaload, 1) := by decide +kernel
theorem dX10_needed_47 : decode cX10_needed 47 = .ok (.iload_n 3, 1) := by decide +kernel
theorem dX10_needed_48 : decode cX10_needed 48 = .ok (.invokestatic 227, 3) := by decide +kernel
theorem dX10_needed_51 : decode cX10_needed 51 = .ok (.ifCond .eq 10, 3) := by decide +kernel
theorem dX10_needed_54 : decode cX10_needed 54 = .ok (.iconst 1, 1) := by decide +kernel
theorem dX10_needed_55 : decode cX10_needed 55 = .ok (.iload 5, 2) := by decide +kernel
theorem dX10_needed_57 : decode cX10_needed 57 = .ok (.ishl, 1) := by decide +kernel
theorem dX10_needed_58 : decode cX10_needed 58 = .ok (.goto 4, 3) := by decide +kernel
theorem dX10_needed_61 : decode cX10_needed 61 = .ok (.iconst 0, 1) := by decide +kernel
theorem dX10_needed_62 : decode cX10_needed 62 = .ok (.ior, 1) := by decide +kernel
theorem dX10_needed_63 : decode cX10_needed 63 = .ok (.istore 4, 2) := by decide +kernel
theorem dX10_needed_65 : decode cX10_needed 65 = .ok (.iinc 5 1, 3) := by decide +kernel
theorem dX10_needed_68 : decode cX10_needed 68 = .ok (.goto (-39), 3) := by decide +kernel
theorem dX10_needed_71 : decode cX10_needed 71 = .ok (.aload_n 0, 1) := by decide +kernel
theorem dX10_needed_72 : decode cX10_needed 72 = .ok (.getfield 337, 3) := by decide +kernel
theorem dX10_needed_75 : decode cX10_needed 75 = .ok (.iload_n 3, 1) := by decide +kernel
theorem dX10_needed_76 : decode cX10_needed 76 = .ok (.invokestatic 227, 3) := by decide +kernel
theorem dX10_needed_79 : decode cX10_needed 79 = .ok (.ifCond .eq 26, 3) := by decide +kernel
theorem dX10_needed_82 : decode cX10_needed 82 = .ok (.iload 4, 2) := by decide +kernel
theorem dX10_needed_84 : decode cX10_needed 84 = .ok (.invokestatic 280, 3) := by decide +kernel
theorem dX10_needed_87 : decode cX10_needed 87 = .ok (.iconst 1, 1) := by decide +kernel
theorem dX10_needed_88 : decode cX10_needed 88 = .ok (.if_icmp .eq 6, 3) := by decide +kernel
theorem dX10_needed_91 : decode cX10_needed 91 = .ok (.goto 14, 3) := by decide +kernel
theorem dX10_needed_94 : decode cX10_needed 94 = .ok (.iload_n 1, 1) := by decide +kernel
theorem dX10_needed_95 : decode cX10_needed 95 = .ok (.iload 4, 2) := by decide +kernel
theorem dX10_needed_97 : decode cX10_needed 97 = .ok (.ior, 1) := by decide +kernel
theorem dX10_needed_98 : decode cX10_needed 98 = .ok (.istore_n 1, 1) := by decide +kernel
theorem dX10_needed_99 : decode cX10_needed 99 = .ok (.iload_n 2, 1) := by decide +kernel
theorem dX10_needed_100 : decode cX10_needed 100 = .ok (.iconst 1, 1) := by decide +kernel
theorem dX10_needed_101 : decode cX10_needed 101 = .ok (.iload_n 3, 1) := by decide +kernel
theorem dX10_needed_102 : decode cX10_needed 102 = .ok (.ishl, 1) := by decide +kernel
theorem dX10_needed_103 : decode cX10_needed 103 = .ok (.ior, 1) := by decide +kernel
theorem dX10_needed_104 : decode cX10_needed 104 = .ok (.istore_n 2, 1) := by decide +kernel
theorem dX10_needed_105 : decode cX10_needed 105 = .ok (.iinc 3 1, 3) := by decide +kernel
theorem dX10_needed_108 : decode cX10_needed 108 = .ok (.goto (-93), 3) := by decide +kernel
theorem dX10_needed_111 : decode cX10_needed 111 = .ok (.aload_n 0, 1) := by decide +kernel
theorem dX10_needed_112 : decode cX10_needed 112 = .ok (.iconst 0, 1) := by decide +kernel
theorem dX10_needed_113 : decode cX10_needed 113 = .ok (.putfield 91, 3) := by decide +kernel
theorem dX10_needed_116 : decode cX10_needed 116 = .ok (.aload_n 0, 1) := by decide +kernel
theorem dX10_needed_117 : decode cX10_needed 117 = .ok (.iload_n 2, 1) := by decide +kernel
theorem dX10_needed_118 : decode cX10_needed 118 = .ok (.invokevirtual 322, 3) := by decide +kernel
theorem dX10_needed_121 : decode cX10_needed 121 = .ok (.iload_n 1, 1) := by decide +kernel
theorem dX10_needed_122 : decode cX10_needed 122 = .ok (.ireturn, 1) := by decide +kernel
theorem dX10_leftBy_0 : decode cX10_leftBy 0 = .ok (.aload_n 0, 1) := by decide +kernel
theorem dX10_leftBy_1 : decode cX10_leftBy 1 = .ok (.aload_n 0, 1) := by decide +kernel
theorem dX10_leftBy_2 : decode cX10_leftBy 2 = .ok (.getfield 337, 3) := by decide +kernel
theorem dX10_leftBy_5 : decode cX10_leftBy 5 = .ok (.aload_n 0, 1) := by decide +kernel
theorem dX10_leftBy_6 : decode cX10_leftBy 6 = .ok (.iload_n 1, 1) := by decide +kernel
theorem dX10_leftBy_7 : decode cX10_leftBy 7 = .ok (.invokevirtual 334, 3) := by decide +kernel
theorem dX10_leftBy_10 : decode cX10_leftBy 10 = .ok (.iconst (-1), 1) := by decide +kernel
theorem dX10_leftBy_11 : decode cX10_leftBy 11 = .ok (.ixor, 1) := by decide +kernel
theorem dX10_leftBy_12 : decode cX10_leftBy 12 = .ok (.iand, 1) := by decide +kernel
theorem dX10_leftBy_13 : decode cX10_leftBy 13 = .ok (.aload_n 0, 1) := by decide +kernel
theorem dX10_leftBy_14 : decode cX10_leftBy 14 = .ok (.getfield 9, 3) := by decide +kernel
theorem dX10_leftBy_17 : decode cX10_leftBy 17 = .ok (.bipush 16, 2) := by decide +kernel
theorem dX10_leftBy_19 : decode cX10_leftBy 19 = .ok (.iaload, 1) := by decide +kernel
theorem dX10_leftBy_20 : decode cX10_leftBy 20 = .ok (.invokevirtual 325, 3) := by decide +kernel
theorem dX10_leftBy_23 : decode cX10_leftBy 23 = .ok (.ireturn, 1) := by decide +kernel
theorem dX10_birds_0 : decode cX10_birds 0 = .ok (.aload_n 0, 1) := by decide +kernel
theorem dX10_birds_1 : decode cX10_birds 1 = .ok (.iconst 0, 1) := by decide +kernel
theorem dX10_birds_2 : decode cX10_birds 2 = .ok (.putfield 87, 3) := by decide +kernel
theorem dX10_birds_5 : decode cX10_birds 5 = .ok (.iload_n 1, 1) := by decide +kernel
theorem dX10_birds_6 : decode cX10_birds 6 = .ok (.iconst 0, 1) := by decide +kernel
theorem dX10_birds_7 : decode cX10_birds 7 = .ok (.bipush 8, 2) := by decide +kernel
theorem dX10_birds_9 : decode cX10_birds 9 = .ok (.invokestatic 97, 3) := by decide +kernel
theorem dX10_birds_12 : decode cX10_birds 12 = .ok (.ifCond .ne 5, 3) := by decide +kernel
theorem dX10_birds_15 : decode cX10_birds 15 = .ok (.iconst (-1), 1) := by decide +kernel
theorem dX10_birds_16 : decode cX10_birds 16 = .ok (.ireturn, 1) := by decide +kernel
theorem dX10_birds_17 : decode cX10_birds 17 = .ok (.aload_n 0, 1) := by decide +kernel
theorem dX10_birds_18 : decode cX10_birds 18 = .ok (.invokevirtual 349, 3) := by decide +kernel
theorem dX10_birds_21 : decode cX10_birds 21 = .ok (.iconst 0, 1) := by decide +kernel
theorem dX10_birds_22 : decode cX10_birds 22 = .ok (.istore_n 2, 1) := by decide +kernel
theorem dX10_birds_23 : decode cX10_birds 23 = .ok (.iconst 1, 1) := by decide +kernel
theorem dX10_birds_24 : decode cX10_birds 24 = .ok (.istore_n 3, 1) := by decide +kernel
theorem dX10_birds_25 : decode cX10_birds 25 = .ok (.iload_n 3, 1) := by decide +kernel
theorem dX10_birds_26 : decode cX10_birds 26 = .ok (.aload_n 0, 1) := by decide +kernel
theorem dX10_birds_27 : decode cX10_birds 27 = .ok (.invokevirtual 331, 3) := by decide +kernel
theorem dX10_birds_30 : decode cX10_birds 30 = .ok (.if_icmp .gt 58, 3) := by decide +kernel
theorem dX10_birds_33 : decode cX10_birds 33 = .ok (.iload_n 3, 1) := by decide +kernel
theorem dX10_birds_34 : decode cX10_birds 34 = .ok (.invokestatic 280, 3) := by decide +kernel
theorem dX10_birds_37 : decode cX10_birds 37 = .ok (.istore 4, 2) := by decide +kernel
theorem dX10_birds_39 : decode cX10_birds 39 = .ok (.iload 4, 2) := by decide +kernel
theorem dX10_birds_41 : decode cX10_birds 41 = .ok (.iload_n 1, 1) := by decide +kernel
theorem dX10_birds_42 : decode cX10_birds 42 = .ok (.if_icmp .le 6, 3) := by decide +kernel
theorem dX10_birds_45 : decode cX10_birds 45 = .ok (.goto 37, 3) := by decide +kernel
theorem dX10_birds_48 : decode cX10_birds 48 = .ok (.aload_n 0, 1) := by decide +kernel
theorem dX10_birds_49 : decode cX10_birds 49 = .ok (.iload_n 3, 1) := by decide +kernel
theorem dX10_birds_50 : decode cX10_birds 50 = .ok (.invokevirtual 357, 3) := by decide +kernel
theorem dX10_birds_53 : decode cX10_birds 53 = .ok (.aload_n 0, 1) := by decide +kernel
theorem dX10_birds_54 : decode cX10_birds 54 = .ok (.iload_n 2, 1) := by decide +kernel
theorem dX10_birds_55 : decode cX10_birds 55 = .ok (.invokevirtual 357, 3) := by decide +kernel
theorem dX10_birds_58 : decode cX10_birds 58 = .ok (.isub, 1) := by decide +kernel
theorem dX10_birds_59 : decode cX10_birds 59 = .ok (.istore 5, 2) := by decide +kernel
theorem dX10_birds_61 : decode cX10_birds 61 = .ok (.iload 5, 2) := by decide +kernel
theorem dX10_birds_63 : decode cX10_birds 63 = .ok (.ifCond .lt 17, 3) := by decide +kernel
theorem dX10_birds_66 : decode cX10_birds 66 = .ok (.iload 5, 2) := by decide +kernel
theorem dX10_birds_68 : decode cX10_birds 68 = .ok (.ifCond .ne 14, 3) := by decide +kernel
theorem dX10_birds_71 : decode cX10_birds 71 = .ok (.iload 4, 2) := by decide +kernel
theorem dX10_birds_73 : decode cX10_birds 73 = .ok (.iload_n 2, 1) := by decide +kernel
theorem dX10_birds_74 : decode cX10_birds 74 = .ok (.invokestatic 280, 3) := by decide +kernel
theorem dX10_birds_77 : decode cX10_birds 77 = .ok (.if_icmp .ge 5, 3) := by decide +kernel
theorem dX10_birds_80 : decode cX10_birds 80 = .ok (.iload_n 3, 1) := by decide +kernel
theorem dX10_birds_81 : decode cX10_birds 81 = .ok (.istore_n 2, 1) := by decide +kernel
theorem dX10_birds_82 : decode cX10_birds 82 = .ok (.iinc 3 1, 3) := by decide +kernel
theorem dX10_birds_85 : decode cX10_birds 85 = .ok (.goto (-60), 3) := by decide +kernel
theorem dX10_birds_88 : decode cX10_birds 88 = .ok (.aload_n 0, 1) := by decide +kernel
theorem dX10_birds_89 : decode cX10_birds 89 = .ok (.iconst 0, 1) := by decide +kernel
theorem dX10_birds_90 : decode cX10_birds 90 = .ok (.putfield 91, 3) := by decide +kernel
theorem dX10_birds_93 : decode cX10_birds 93 = .ok (.aload_n 0, 1) := by decide +kernel
theorem dX10_birds_94 : decode cX10_birds 94 = .ok (.iload_n 2, 1) := by decide +kernel
theorem dX10_birds_95 : decode cX10_birds 95 = .ok (.invokevirtual 322, 3) := by decide +kernel
theorem dX10_birds_98 : decode cX10_birds 98 = .ok (.aload_n 0, 1) := by decide +kernel
theorem dX10_birds_99 : decode cX10_birds 99 = .ok (.aload_n 0, 1) := by decide +kernel
theorem dX10_birds_100 : decode cX10_birds 100 = .ok (.getfield 337, 3) := by decide +kernel
theorem dX10_birds_103 : decode cX10_birds 103 = .ok (.aload_n 0, 1) := by decide +kernel
theorem dX10_birds_104 : decode cX10_birds 104 = .ok (.iload_n 2, 1) := by decide +kernel
theorem dX10_birds_105 : decode cX10_birds 105 = .ok (.invokevirtual 334, 3) := by decide +kernel
theorem dX10_birds_108 : decode cX10_birds 108 = .ok (.iconst (-1), 1) := by decide +kernel
theorem dX10_birds_109 : decode cX10_birds 109 = .ok (.ixor, 1) := by decide +kernel
theorem dX10_birds_110 : decode cX10_birds 110 = .ok (.iand, 1) := by decide +kernel
theorem dX10_birds_111 : decode cX10_birds 111 = .ok (.invokevirtual 322, 3) := by decide +kernel
theorem dX10_birds_114 : decode cX10_birds 114 = .ok (.aload_n 0, 1) := by decide +kernel
theorem dX10_birds_115 : decode cX10_birds 115 = .ok (.iload_n 2, 1) := by decide +kernel
theorem dX10_birds_116 : decode cX10_birds 116 = .ok (.invokevirtual 357, 3) := by decide +kernel
theorem dX10_birds_119 : decode cX10_birds 119 = .ok (.ireturn, 1) := by decide +kernel
theorem dX10_next_0 : decode cX10_next 0 = .ok (.aload_n 0, 1) := by decide +kernel
theorem dX10_next_1 : decode cX10_next 1 = .ok (.iconst 0, 1) := by decide +kernel
theorem dX10_next_2 : decode cX10_next 2 = .ok (.putfield 87, 3) := by decide +kernel
theorem dX10_next_5 : decode cX10_next 5 = .ok (.iload_n 1, 1) := by decide +kernel
theorem dX10_next_6 : decode cX10_next 6 = .ok (.iconst 0, 1) := by decide +kernel
theorem dX10_next_7 : decode cX10_next 7 = .ok (.aload_n 0, 1) := by decide +kernel
theorem dX10_next_8 : decode cX10_next 8 = .ok (.invokevirtual 331, 3) := by decide +kernel
theorem dX10_next_11 : decode cX10_next 11 = .ok (.invokestatic 97, 3) := by decide +kernel
theorem dX10_next_14 : decode cX10_next 14 = .ok (.ifCond .ne 5, 3) := by decide +kernel
theorem dX10_next_17 : decode cX10_next 17 = .ok (.iconst (-1), 1) := by decide +kernel
theorem dX10_next_18 : decode cX10_next 18 = .ok (.ireturn, 1) := by decide +kernel
theorem dX10_next_19 : decode cX10_next 19 = .ok (.aload_n 0, 1) := by decide +kernel
theorem dX10_next_20 : decode cX10_next 20 = .ok (.invokevirtual 349, 3) := by decide +kernel
theorem dX10_next_23 : decode cX10_next 23 = .ok (.bipush (-2), 2) := by decide +kernel
theorem dX10_next_25 : decode cX10_next 25 = .ok (.istore_n 2, 1) := by decide +kernel
theorem dX10_next_26 : decode cX10_next 26 = .ok (.iconst 0, 1) := by decide +kernel
theorem dX10_next_27 : decode cX10_next 27 = .ok (.istore_n 3, 1) := by decide +kernel
theorem dX10_next_28 : decode cX10_next 28 = .ok (.iload_n 3, 1) := by decide +kernel
theorem dX10_next_29 : decode cX10_next 29 = .ok (.aload_n 0, 1) := by decide +kernel
theorem dX10_next_30 : decode cX10_next 30 = .ok (.getfield 101, 3) := by decide +kernel
theorem dX10_next_33 : decode cX10_next 33 = .ok (.if_icmp .ge 44, 3) := by decide +kernel
theorem dX10_next_36 : decode cX10_next 36 = .ok (.iload_n 1, 1) := by decide +kernel
theorem dX10_next_37 : decode cX10_next 37 = .ok (.iload_n 3, 1) := by decide +kernel
theorem dX10_next_38 : decode cX10_next 38 = .ok (.invokestatic 227, 3) := by decide +kernel
theorem dX10_next_41 : decode cX10_next 41 = .ok (.ifCond .ne 30, 3) := by decide +kernel
theorem dX10_next_44 : decode cX10_next 44 = .ok (.iload_n 2, 1) := by decide +kernel
theorem dX10_next_45 : decode cX10_next 45 = .ok (.ifCond .lt 24, 3) := by decide +kernel
theorem dX10_next_48 : decode cX10_next 48 = .ok (.aload_n 0, 1) := by decide +kernel
theorem dX10_next_49 : decode cX10_next 49 = .ok (.iload_n 1, 1) := by decide +kernel
theorem dX10_next_50 : decode cX10_next 50 = .ok (.iconst 1, 1) := by decide +kernel
theorem dX10_next_51 : decode cX10_next 51 = .ok (.iload_n 3, 1) := by decide +kernel
theorem dX10_next_52 : decode cX10_next 52 = .ok (.ishl, 1) := by decide +kernel
theorem dX10_next_53 : decode cX10_next 53 = .ok (.ior, 1) := by decide +kernel
theorem dX10_next_54 : decode cX10_next 54 = .ok (.invokevirtual 357, 3) := by decide +kernel
theorem dX10_next_57 : decode cX10_next 57 = .ok (.aload_n 0, 1) := by decide +kernel
theorem dX10_next_58 : decode cX10_next 58 = .ok (.iload_n 1, 1) := by decide +kernel
theorem dX10_next_59 : decode cX10_next 59 = .ok (.iconst 1, 1) := by decide +kernel
theorem dX10_next_60 : decode cX10_next 60 = .ok (.iload_n 2, 1) := by decide +kernel
theorem dX10_next_61 : decode cX10_next 61 = .ok (.ishl, 1) := by decide +kernel
theorem dX10_next_62 : decode cX10_next 62 = .ok (.ior, 1) := by decide +kernel
theorem dX10_next_63 : decode cX10_next 63 = .ok (.invokevirtual 357, 3) := by decide +kernel
theorem dX10_next_66 : decode cX10_next 66 = .ok (.if_icmp .ge 5, 3) := by decide +kernel
theorem dX10_next_69 : decode cX10_next 69 = .ok (.iload_n 3, 1) := by decide +kernel
theorem dX10_next_70 : decode cX10_next 70 = .ok (.istore_n 2, 1) := by decide +kernel
theorem dX10_next_71 : decode cX10_next 71 = .ok (.iinc 3 1, 3) := by decide +kernel
theorem dX10_next_74 : decode cX10_next 74 = .ok (.goto (-46), 3) := by decide +kernel
theorem dX10_next_77 : decode cX10_next 77 = .ok (.iload_n 2, 1) := by decide +kernel
theorem dX10_next_78 : decode cX10_next 78 = .ok (.ifCond .ge 6, 3) := by decide +kernel
theorem dX10_next_81 : decode cX10_next 81 = .ok (.bipush (-2), 2) := by decide +kernel
theorem dX10_next_83 : decode cX10_next 83 = .ok (.ireturn, 1) := by decide +kernel
theorem dX10_next_84 : decode cX10_next 84 = .ok (.aload_n 0, 1) := by decide +kernel
theorem dX10_next_85 : decode cX10_next 85 = .ok (.iconst 0, 1) := by decide +kernel
theorem dX10_next_86 : decode cX10_next 86 = .ok (.putfield 91, 3) := by decide +kernel
theorem dX10_next_89 : decode cX10_next 89 = .ok (.aload_n 0, 1) := by decide +kernel
theorem dX10_next_90 : decode cX10_next 90 = .ok (.aload_n 0, 1) := by decide +kernel
theorem dX10_next_91 : decode cX10_next 91 = .ok (.iload_n 1, 1) := by decide +kernel
theorem dX10_next_92 : decode cX10_next 92 = .ok (.iconst 1, 1) := by decide +kernel
theorem dX10_next_93 : decode cX10_next 93 = .ok (.iload_n 2, 1) := by decide +kernel
theorem dX10_next_94 : decode cX10_next 94 = .ok (.ishl, 1) := by decide +kernel
theorem dX10_next_95 : decode cX10_next 95 = .ok (.ior, 1) := by decide +kernel
theorem dX10_next_96 : decode cX10_next 96 = .ok (.invokevirtual 357, 3) := by decide +kernel
theorem dX10_next_99 : decode cX10_next 99 = .ok (.invokevirtual 322, 3) := by decide +kernel
theorem dX10_next_102 : decode cX10_next 102 = .ok (.aload_n 0, 1) := by decide +kernel
theorem dX10_next_103 : decode cX10_next 103 = .ok (.aload_n 0, 1) := by decide +kernel
theorem dX10_next_104 : decode cX10_next 104 = .ok (.iload_n 1, 1) := by decide +kernel
theorem dX10_next_105 : decode cX10_next 105 = .ok (.invokevirtual 357, 3) := by decide +kernel
theorem dX10_next_108 : decode cX10_next 108 = .ok (.invokevirtual 322, 3) := by decide +kernel
theorem dX10_next_111 : decode cX10_next 111 = .ok (.iload_n 2, 1) := by decide +kernel
theorem dX10_next_112 : decode cX10_next 112 = .ok (.ireturn, 1) := by decide +kernel
theorem dX10_leastMoves_0 : decode cX10_leastMoves 0 = .ok (.aload_n 0, 1) := by decide +kernel
theorem dX10_leastMoves_1 : decode cX10_leastMoves 1 = .ok (.getfield 62, 3) := by decide +kernel
theorem dX10_leastMoves_4 : decode cX10_leastMoves 4 = .ok (.iload_n 1, 1) := by decide +kernel
theorem dX10_leastMoves_5 : decode cX10_leastMoves 5 = .ok (.bipush 8, 2) := by decide +kernel
theorem dX10_leastMoves_7 : decode cX10_leastMoves 7 = .ok (.ishl, 1) := by decide +kernel
theorem dX10_leastMoves_8 : decode cX10_leastMoves 8 = .ok (.iload_n 2, 1) := by decide +kernel
theorem dX10_leastMoves_9 : decode cX10_leastMoves 9 = .ok (.iadd, 1) := by decide +kernel
theorem dX10_leastMoves_10 : decode cX10_leastMoves 10 = .ok (.iaload, 1) := by decide +kernel
theorem dX10_leastMoves_11 : decode cX10_leastMoves 11 = .ok (.ireturn, 1) := by decide +kernel
theorem dX10_layMoves_0 : decode cX10_layMoves 0 = .ok (.iconst 0, 1) := by decide +kernel
theorem dX10_layMoves_1 : decode cX10_layMoves 1 = .ok (.istore_n 1, 1) := by decide +kernel
theorem dX10_layMoves_2 : decode cX10_layMoves 2 = .ok (.iload_n 1, 1) := by decide +kernel
theorem dX10_layMoves_3 : decode cX10_layMoves 3 = .ok (.aload_n 0, 1) := by decide +kernel
theorem dX10_layMoves_4 : decode cX10_layMoves 4 = .ok (.invokevirtual 331, 3) := by decide +kernel
theorem dX10_layMoves_7 : decode cX10_layMoves 7 = .ok (.if_icmp .gt 136, 3) := by decide +kernel
theorem dX10_layMoves_10 : decode cX10_layMoves 10 = .ok (.iconst 0, 1) := by decide +kernel
theorem dX10_layMoves_11 : decode cX10_layMoves 11 = .ok (.istore_n 2, 1) := by decide +kernel
theorem dX10_layMoves_12 : decode cX10_layMoves 12 = .ok (.iload_n 2, 1) := by decide +kernel
theorem dX10_layMoves_13 : decode cX10_layMoves 13 = .ok (.bipush 8, 2) := by decide +kernel
theorem dX10_layMoves_15 : decode cX10_layMoves 15 = .ok (.if_icmp .gt 122, 3) := by decide +kernel
theorem dX10_layMoves_18 : decode cX10_layMoves 18 = .ok (.iload_n 2, 1) := by decide +kernel
theorem dX10_layMoves_19 : decode cX10_layMoves 19 = .ok (.bipush 8, 2) := by decide +kernel
theorem dX10_layMoves_21 : decode cX10_layMoves 21 = .ok (.if_icmp .ge 22, 3) := by decide +kernel
theorem dX10_layMoves_24 : decode cX10_layMoves 24 = .ok (.iload_n 2, 1) := by decide +kernel
theorem dX10_layMoves_25 : decode cX10_layMoves 25 = .ok (.aload_n 0, 1) := by decide +kernel
theorem dX10_layMoves_26 : decode cX10_layMoves 26 = .ok (.getfield 101, 3) := by decide +kernel
theorem dX10_layMoves_29 : decode cX10_layMoves 29 = .ok (.if_icmp .ge 102, 3) := by decide +kernel
theorem dX10_layMoves_32 : decode cX10_layMoves 32 = .ok (.iload_n 1, 1) := by decide +kernel
theorem dX10_layMoves_33 : decode cX10_layMoves 33 = .ok (.iload_n 2, 1) := by decide +kernel
theorem dX10_layMoves_34 : decode cX10_layMoves 34 = .ok (.invokestatic 227, 3) := by decide +kernel
theorem dX10_layMoves_37 : decode cX10_layMoves 37 = .ok (.ifCond .eq 6, 3) := by decide +kernel
theorem dX10_layMoves_40 : decode cX10_layMoves 40 = .ok (.goto 91, 3) := by decide +kernel
theorem dX10_layMoves_43 : decode cX10_layMoves 43 = .ok (.iload_n 1, 1) := by decide +kernel
theorem dX10_layMoves_44 : decode cX10_layMoves 44 = .ok (.ifCond .ne 7, 3) := by decide +kernel
theorem dX10_layMoves_47 : decode cX10_layMoves 47 = .ok (.iconst 0, 1) := by decide +kernel
theorem dX10_layMoves_48 : decode cX10_layMoves 48 = .ok (.goto 6, 3) := by decide +kernel
theorem dX10_layMoves_51 : decode cX10_layMoves 51 = .ok (.ldc_w 360, 3) := by decide +kernel
theorem dX10_layMoves_54 : decode cX10_layMoves 54 = .ok (.istore_n 3, 1) := by decide +kernel
theorem dX10_layMoves_55 : decode cX10_layMoves 55 = .ok (.iconst 0, 1) := by decide +kernel
theorem dX10_layMoves_56 : decode cX10_layMoves 56 = .ok (.istore 4, 2) := by decide +kernel
theorem dX10_layMoves_58 : decode cX10_layMoves 58 = .ok (.iload 4, 2) := by decide +kernel
theorem dX10_layMoves_60 : decode cX10_layMoves 60 = .ok (.aload_n 0, 1) := by decide +kernel
theorem dX10_layMoves_61 : decode cX10_layMoves 61 = .ok (.getfield 101, 3) := by decide +kernel
theorem dX10_layMoves_64 : decode cX10_layMoves 64 = .ok (.if_icmp .ge 55, 3) := by decide +kernel
theorem dX10_layMoves_67 : decode cX10_layMoves 67 = .ok (.iload_n 1, 1) := by decide +kernel
theorem dX10_layMoves_68 : decode cX10_layMoves 68 = .ok (.iload 4, 2) := by decide +kernel
theorem dX10_layMoves_70 : decode cX10_layMoves 70 = .ok (.invokestatic 227, 3) := by decide +kernel
theorem dX10_layMoves_73 : decode cX10_layMoves 73 = .ok (.ifCond .eq 40, 3) := by decide +kernel
theorem dX10_layMoves_76 : decode cX10_layMoves 76 = .ok (.iload_n 3, 1) := by decide +kernel
theorem dX10_layMoves_77 : decode cX10_layMoves 77 = .ok (.aload_n 0, 1) := by decide +kernel
theorem dX10_layMoves_78 : decode cX10_layMoves 78 = .ok (.iload_n 2, 1) := by decide +kernel
theorem dX10_layMoves_79 : decode cX10_layMoves 79 = .ok (.bipush 8, 2) := by decide +kernel
theorem dX10_layMoves_81 : decode cX10_layMoves 81 = .ok (.if_icmp .ne 7, 3) := by decide +kernel
theorem dX10_layMoves_84 : decode cX10_layMoves 84 = .ok (.iconst (-1), 1) := by decide +kernel
theorem dX10_layMoves_85 : decode cX10_layMoves 85 = .ok (.goto 4, 3) := by decide +kernel
theorem dX10_layMoves_88 : decode cX10_layMoves 88 = .ok (.iload_n 2, 1) := by decide +kernel
theorem dX10_layMoves_89 : decode cX10_layMoves 89 = .ok (.iload 4, 2) := by decide +kernel
theorem dX10_layMoves_91 : decode cX10_layMoves 91 = .ok (.invokevirtual 261, 3) := by decide +kernel
theorem dX10_layMoves_94 : decode cX10_layMoves 94 = .ok (.aload_n 0, 1) := by decide +kernel
theorem dX10_layMoves_95 : decode cX10_layMoves 95 = .ok (.iload 4, 2) := by decide +kernel
theorem dX10_layMoves_97 : decode cX10_layMoves 97 = .ok (.iload_n 1, 1) := by decide +kernel
theorem dX10_layMoves_98 : decode cX10_layMoves 98 = .ok (.iconst 1, 1) := by decide +kernel
theorem dX10_layMoves_99 : decode cX10_layMoves 99 = .ok (.iload 4, 2) := by decide +kernel
theorem dX10_layMoves_101 : decode cX10_layMoves 101 = .ok (.ishl, 1) := by decide +kernel
theorem dX10_layMoves_102 : decode cX10_layMoves 102 = .ok (.iconst (-1), 1) := by decide +kernel
theorem dX10_layMoves_103 : decode cX10_layMoves 103 = .ok (.ixor, 1) := by decide +kernel
theorem dX10_layMoves_104 : decode cX10_layMoves 104 = .ok (.iand, 1) := by decide +kernel
theorem dX10_layMoves_105 : decode cX10_layMoves 105 = .ok (.invokevirtual 361, 3) := by decide +kernel
theorem dX10_layMoves_108 : decode cX10_layMoves 108 = .ok (.iadd, 1) := by decide +kernel
theorem dX10_layMoves_109 : decode cX10_layMoves 109 = .ok (.invokestatic 224, 3) := by decide +kernel
theorem dX10_layMoves_112 : decode cX10_layMoves 112 = .ok (.istore_n 3, 1) := by decide +kernel
theorem dX10_layMoves_113 : decode cX10_layMoves 113 = .ok (.iinc 4 1, 3) := by decide +kernel
theorem dX10_layMoves_116 : decode cX10_layMoves 116 = .ok (.goto (-58), 3) := by decide +kernel
theorem dX10_layMoves_119 : decode cX10_layMoves 119 = .ok (.aload_n 0, 1) := by decide +kernel
theorem dX10_layMoves_120 : decode cX10_layMoves 120 = .ok (.getfield 62, 3) := by decide +kernel
theorem dX10_layMoves_123 : decode cX10_layMoves 123 = .ok (.iload_n 2, 1) := by decide +kernel
theorem dX10_layMoves_124 : decode cX10_layMoves 124 = .ok (.bipush 8, 2) := by decide +kernel
theorem dX10_layMoves_126 : decode cX10_layMoves 126 = .ok (.ishl, 1) := by decide +kernel
theorem dX10_layMoves_127 : decode cX10_layMoves 127 = .ok (.iload_n 1, 1) := by decide +kernel
theorem dX10_layMoves_128 : decode cX10_layMoves 128 = .ok (.iadd, 1) := by decide +kernel
theorem dX10_layMoves_129 : decode cX10_layMoves 129 = .ok (.iload_n 3, 1) := by decide +kernel
theorem dX10_layMoves_130 : decode cX10_layMoves 130 = .ok (.iastore, 1) := by decide +kernel
theorem dX10_layMoves_131 : decode cX10_layMoves 131 = .ok (.iinc 2 1, 3) := by decide +kernel
theorem dX10_layMoves_134 : decode cX10_layMoves 134 = .ok (.goto (-122), 3) := by decide +kernel
theorem dX10_layMoves_137 : decode cX10_layMoves 137 = .ok (.iinc 1 1, 3) := by decide +kernel
theorem dX10_layMoves_140 : decode cX10_layMoves 140 = .ok (.goto (-138), 3) := by decide +kernel
theorem dX10_layMoves_143 : decode cX10_layMoves 143 = .ok (.return_, 1) := by decide +kernel
theorem dX10_besides_0 : decode cX10_besides 0 = .ok (.aload_n 0, 1) := by decide +kernel
theorem dX10_besides_1 : decode cX10_besides 1 = .ok (.getfield 9, 3) := by decide +kernel
theorem dX10_besides_4 : decode cX10_besides 4 = .ok (.bipush 17, 2) := by decide +kernel
theorem dX10_besides_6 : decode cX10_besides 6 = .ok (.iaload, 1) := by decide +kernel
theorem dX10_besides_7 : decode cX10_besides 7 = .ok (.iconst (-1), 1) := by decide +kernel
theorem dX10_besides_8 : decode cX10_besides 8 = .ok (.if_icmp .ne 7, 3) := by decide +kernel
theorem dX10_besides_11 : decode cX10_besides 11 = .ok (.iload_n 1, 1) := by decide +kernel
theorem dX10_besides_12 : decode cX10_besides 12 = .ok (.goto 16, 3) := by decide +kernel
theorem dX10_besides_15 : decode cX10_besides 15 = .ok (.iload_n 1, 1) := by decide +kernel
theorem dX10_besides_16 : decode cX10_besides 16 = .ok (.iconst 1, 1) := by decide +kernel
theorem dX10_besides_17 : decode cX10_besides 17 = .ok (.aload_n 0, 1) := by decide +kernel
theorem dX10_besides_18 : decode cX10_besides 18 = .ok (.getfield 9, 3) := by decide +kernel
theorem dX10_besides_21 : decode cX10_besides 21 = .ok (.bipush 17, 2) := by decide +kernel
theorem dX10_besides_23 : decode cX10_besides 23 = .ok (.iaload, 1) := by decide +kernel
theorem dX10_besides_24 : decode cX10_besides 24 = .ok (.ishl, 1) := by decide +kernel
theorem dX10_besides_25 : decode cX10_besides 25 = .ok (.iconst (-1), 1) := by decide +kernel
theorem dX10_besides_26 : decode cX10_besides 26 = .ok (.ixor, 1) := by decide +kernel
theorem dX10_besides_27 : decode cX10_besides 27 = .ok (.iand, 1) := by decide +kernel
theorem dX10_besides_28 : decode cX10_besides 28 = .ok (.ireturn, 1) := by decide +kernel
theorem dX10_placeOf_0 : decode cX10_placeOf 0 = .ok (.iload_n 1, 1) := by decide +kernel
theorem dX10_placeOf_1 : decode cX10_placeOf 1 = .ok (.iconst (-1), 1) := by decide +kernel
theorem dX10_placeOf_2 : decode cX10_placeOf 2 = .ok (.if_icmp .ne 8, 3) := by decide +kernel
theorem dX10_placeOf_5 : decode cX10_placeOf 5 = .ok (.bipush 8, 2) := by decide +kernel
theorem dX10_placeOf_7 : decode cX10_placeOf 7 = .ok (.goto 4, 3) := by decide +kernel
theorem dX10_placeOf_10 : decode cX10_placeOf 10 = .ok (.iload_n 1, 1) := by decide +kernel
theorem dX10_placeOf_11 : decode cX10_placeOf 11 = .ok (.ireturn, 1) := by decide +kernel
theorem dX10_route_0 : decode cX10_route 0 = .ok (.aload_n 0, 1) := by decide +kernel
theorem dX10_route_1 : decode cX10_route 1 = .ok (.iconst 0, 1) := by decide +kernel
theorem dX10_route_2 : decode cX10_route 2 = .ok (.putfield 87, 3) := by decide +kernel
theorem dX10_route_5 : decode cX10_route 5 = .ok (.iload_n 1, 1) := by decide +kernel
theorem dX10_route_6 : decode cX10_route 6 = .ok (.iconst 0, 1) := by decide +kernel
theorem dX10_route_7 : decode cX10_route 7 = .ok (.aload_n 0, 1) := by decide +kernel
theorem dX10_route_8 : decode cX10_route 8 = .ok (.invokevirtual 331, 3) := by decide +kernel
theorem dX10_route_11 : decode cX10_route 11 = .ok (.invokestatic 97, 3) := by decide +kernel
theorem dX10_route_14 : decode cX10_route 14 = .ok (.ifCond .ne 5, 3) := by decide +kernel
theorem dX10_route_17 : decode cX10_route 17 = .ok (.iconst (-1), 1) := by decide +kernel
theorem dX10_route_18 : decode cX10_route 18 = .ok (.ireturn, 1) := by decide +kernel
theorem dX10_route_19 : decode cX10_route 19 = .ok (.aload_n 0, 1) := by decide +kernel
theorem dX10_route_20 : decode cX10_route 20 = .ok (.invokevirtual 364, 3) := by decide +kernel
theorem dX10_route_23 : decode cX10_route 23 = .ok (.aload_n 0, 1) := by decide +kernel
theorem dX10_route_24 : decode cX10_route 24 = .ok (.iload_n 1, 1) := by decide +kernel
theorem dX10_route_25 : decode cX10_route 25 = .ok (.invokevirtual 367, 3) := by decide +kernel
theorem dX10_route_28 : decode cX10_route 28 = .ok (.istore_n 2, 1) := by decide +kernel
theorem dX10_route_29 : decode cX10_route 29 = .ok (.aload_n 0, 1) := by decide +kernel
theorem dX10_route_30 : decode cX10_route 30 = .ok (.getfield 9, 3) := by decide +kernel
theorem dX10_route_33 : decode cX10_route 33 = .ok (.bipush 17, 2) := by decide +kernel
theorem dX10_route_35 : decode cX10_route 35 = .ok (.iaload, 1) := by decide +kernel
theorem dX10_route_36 : decode cX10_route 36 = .ok (.istore_n 3, 1) := by decide +kernel
theorem dX10_route_37 : decode cX10_route 37 = .ok (.aload_n 0, 1) := by decide +kernel
theorem dX10_route_38 : decode cX10_route 38 = .ok (.aload_n 0, 1) := by decide +kernel
theorem dX10_route_39 : decode cX10_route 39 = .ok (.iload_n 3, 1) := by decide +kernel
theorem dX10_route_40 : decode cX10_route 40 = .ok (.invokevirtual 370, 3) := by decide +kernel
theorem dX10_route_43 : decode cX10_route 43 = .ok (.iload_n 2, 1) := by decide +kernel
theorem dX10_route_44 : decode cX10_route 44 = .ok (.invokevirtual 361, 3) := by decide +kernel
theorem dX10_route_47 : decode cX10_route 47 = .ok (.istore 4, 2) := by decide +kernel
theorem dX10_route_49 : decode cX10_route 49 = .ok (.aload_n 0, 1) := by decide +kernel
theorem dX10_route_50 : decode cX10_route 50 = .ok (.iconst 0, 1) := by decide +kernel
theorem dX10_route_51 : decode cX10_route 51 = .ok (.putfield 91, 3) := by decide +kernel
theorem dX10_route_54 : decode cX10_route 54 = .ok (.iload_n 2, 1) := by decide +kernel
theorem dX10_route_55 : decode cX10_route 55 = .ok (.ifCond .eq 77, 3) := by decide +kernel
theorem dX10_route_58 : decode cX10_route 58 = .ok (.iconst 0, 1) := by decide +kernel
theorem dX10_route_59 : decode cX10_route 59 = .ok (.istore 5, 2) := by decide +kernel
theorem dX10_route_61 : decode cX10_route 61 = .ok (.iload_n 2, 1) := by decide +kernel
theorem dX10_route_62 : decode cX10_route 62 = .ok (.iload 5, 2) := by decide +kernel
theorem dX10_route_64 : decode cX10_route 64 = .ok (.invokestatic 227, 3) := by decide +kernel
theorem dX10_route_67 : decode cX10_route 67 = .ok (.ifCond .eq 38, 3) := by decide +kernel
theorem dX10_route_70 : decode cX10_route 70 = .ok (.aload_n 0, 1) := by decide +kernel
theorem dX10_route_71 : decode cX10_route 71 = .ok (.iload_n 3, 1) := by decide +kernel
theorem dX10_route_72 : decode cX10_route 72 = .ok (.iload 5, 2) := by decide +kernel
theorem dX10_route_74 : decode cX10_route 74 = .ok (.invokevirtual 261, 3) := by decide +kernel
theorem dX10_route_77 : decode cX10_route 77 = .ok (.aload_n 0, 1) := by decide +kernel
theorem dX10_route_78 : decode cX10_route 78 = .ok (.iload 5, 2) := by decide +kernel
theorem dX10_route_80 : decode cX10_route 80 = .ok (.iload_n 2, 1) := by decide +kernel
theorem dX10_route_81 : decode cX10_route 81 = .ok (.iconst 1, 1) := by decide +kernel
theorem dX10_route_82 : decode cX10_route 82 = .ok (.iload 5, 2) := by decide +kernel
theorem dX10_route_84 : decode cX10_route 84 = .ok (.ishl, 1) := by decide +kernel
theorem dX10_route_85 : decode cX10_route 85 = .ok (.iconst (-1), 1) := by decide +kernel
theorem dX10_route_86 : decode cX10_route 86 = .ok (.ixor, 1) := by decide +kernel
theorem dX10_route_87 : decode cX10_route 87 = .ok (.iand, 1) := by decide +kernel
theorem dX10_route_88 : decode cX10_route 88 = .ok (.invokevirtual 361, 3) := by decide +kernel
theorem dX10_route_91 : decode cX10_route 91 = .ok (.iadd, 1) := by decide +kernel
theorem dX10_route_92 : decode cX10_route 92 = .ok (.aload_n 0, 1) := by decide +kernel
theorem dX10_route_93 : decode cX10_route 93 = .ok (.aload_n 0, 1) := by decide +kernel
theorem dX10_route_94 : decode cX10_route 94 = .ok (.iload_n 3, 1) := by decide +kernel
theorem dX10_route_95 : decode cX10_route 95 = .ok (.invokevirtual 370, 3) := by decide +kernel
theorem dX10_route_98 : decode cX10_route 98 = .ok (.iload_n 2, 1) := by decide +kernel
theorem dX10_route_99 : decode cX10_route 99 = .ok (.invokevirtual 361, 3) := by decide +kernel
theorem dX10_route_102 : decode cX10_route 102 = .ok (.if_icmp .eq 9, 3) := by decide +kernel
theorem dX10_route_105 : decode cX10_route 105 = .ok (.iinc 5 1, 3) := by decide +kernel
theorem dX10_route_108 : decode cX10_route 108 = .ok (.goto (-47), 3) := by decide +kernel
theorem dX10_route_111 : decode cX10_route 111 = .ok (.aload_n 0, 1) := by decide +kernel
theorem dX10_route_112 : decode cX10_route 112 = .ok (.iload 5, 2) := by decide +kernel
theorem dX10_route_114 : decode cX10_route 114 = .ok (.invokevirtual 322, 3) := by decide +kernel
theorem dX10_route_117 : decode cX10_route 117 = .ok (.iload 5, 2) := by decide +kernel
theorem dX10_route_119 : decode cX10_route 119 = .ok (.istore_n 3, 1) := by decide +kernel
theorem dX10_route_120 : decode cX10_route 120 = .ok (.iload_n 2, 1) := by decide +kernel
theorem dX10_route_121 : decode cX10_route 121 = .ok (.iconst 1, 1) := by decide +kernel
theorem dX10_route_122 : decode cX10_route 122 = .ok (.iload 5, 2) := by decide +kernel
theorem dX10_route_124 : decode cX10_route 124 = .ok (.ishl, 1) := by decide +kernel
theorem dX10_route_125 : decode cX10_route 125 = .ok (.iconst (-1), 1) := by decide +kernel
theorem dX10_route_126 : decode cX10_route 126 = .ok (.ixor, 1) := by decide +kernel
theorem dX10_route_127 : decode cX10_route 127 = .ok (.iand, 1) := by decide +kernel
theorem dX10_route_128 : decode cX10_route 128 = .ok (.istore_n 2, 1) := by decide +kernel
theorem dX10_route_129 : decode cX10_route 129 = .ok (.goto (-75), 3) := by decide +kernel
theorem dX10_route_132 : decode cX10_route 132 = .ok (.iload 4, 2) := by decide +kernel
theorem dX10_route_134 : decode cX10_route 134 = .ok (.ireturn, 1) := by decide +kernel
theorem dX10_laySeconds_0 : decode cX10_laySeconds 0 = .ok (.iconst 0, 1) := by decide +kernel
theorem dX10_laySeconds_1 : decode cX10_laySeconds 1 = .ok (.istore_n 1, 1) := by decide +kernel
theorem dX10_laySeconds_2 : decode cX10_laySeconds 2 = .ok (.iload_n 1, 1) := by decide +kernel
theorem dX10_laySeconds_3 : decode cX10_laySeconds 3 = .ok (.aload_n 0, 1) := by decide +kernel
theorem dX10_laySeconds_4 : decode cX10_laySeconds 4 = .ok (.getfield 101, 3) := by decide +kernel
theorem dX10_laySeconds_7 : decode cX10_laySeconds 7 = .ok (.if_icmp .ge 44, 3) := by decide +kernel
theorem dX10_laySeconds_10 : decode cX10_laySeconds 10 = .ok (.iconst 0, 1) := by decide +kernel
theorem dX10_laySeconds_11 : decode cX10_laySeconds 11 = .ok (.istore_n 2, 1) := by decide +kernel
theorem dX10_laySeconds_12 : decode cX10_laySeconds 12 = .ok (.iload_n 2, 1) := by decide +kernel
theorem dX10_laySeconds_13 : decode cX10_laySeconds 13 = .ok (.aload_n 0, 1) := by decide +kernel
theorem dX10_laySeconds_14 : decode cX10_laySeconds 14 = .ok (.getfield 94, 3) := by decide +kernel
theorem dX10_laySeconds_17 : decode cX10_laySeconds 17 = .ok (.if_icmp .ge 28, 3) := by decide +kernel
theorem dX10_laySeconds_20 : decode cX10_laySeconds 20 = .ok (.aload_n 0, 1) := by decide +kernel
theorem dX10_laySeconds_21 : decode cX10_laySeconds 21 = .ok (.getfield 65, 3) := by decide +kernel
theorem dX10_laySeconds_24 : decode cX10_laySeconds 24 = .ok (.bipush 16, 2) := by decide +kernel
theorem dX10_laySeconds_26 : decode cX10_laySeconds 26 = .ok (.iload_n 1, 1) := by decide +kernel
theorem dX10_laySeconds_27 : decode cX10_laySeconds 27 = .ok (.imul, 1) := by decide +kernel
theorem dX10_laySeconds_28 : decode cX10_laySeconds 28 = .ok (.iload_n 2, 1) := by decide +kernel
theorem dX10_laySeconds_29 : decode cX10_laySeconds 29 = .ok (.iadd, 1) := by decide +kernel
theorem dX10_laySeconds_30 : decode cX10_laySeconds 30 = .ok (.aload_n 0, 1) := by decide +kernel
theorem dX10_laySeconds_31 : decode cX10_laySeconds 31 = .ok (.iload_n 2, 1) := by decide +kernel
theorem dX10_laySeconds_32 : decode cX10_laySeconds 32 = .ok (.iload_n 1, 1) := by decide +kernel
theorem dX10_laySeconds_33 : decode cX10_laySeconds 33 = .ok (.iconst 0, 1) := by decide +kernel
theorem dX10_laySeconds_34 : decode cX10_laySeconds 34 = .ok (.iconst 0, 1) := by decide +kernel
theorem dX10_laySeconds_35 : decode cX10_laySeconds 35 = .ok (.invokevirtual 285, 3) := by decide +kernel
theorem dX10_laySeconds_38 : decode cX10_laySeconds 38 = .ok (.iastore, 1) := by decide +kernel
theorem dX10_laySeconds_39 : decode cX10_laySeconds 39 = .ok (.iinc 2 1, 3) := by decide +kernel
theorem dX10_laySeconds_42 : decode cX10_laySeconds 42 = .ok (.goto (-30), 3) := by decide +kernel
theorem dX10_laySeconds_45 : decode cX10_laySeconds 45 = .ok (.iinc 1 1, 3) := by decide +kernel
theorem dX10_laySeconds_48 : decode cX10_laySeconds 48 = .ok (.goto (-46), 3) := by decide +kernel
theorem dX10_laySeconds_51 : decode cX10_laySeconds 51 = .ok (.return_, 1) := by decide +kernel
theorem dX10_workOf_0 : decode cX10_workOf 0 = .ok (.aload_n 0, 1) := by decide +kernel
theorem dX10_workOf_1 : decode cX10_workOf 1 = .ok (.aload_n 0, 1) := by decide +kernel
theorem dX10_workOf_2 : decode cX10_workOf 2 = .ok (.aload_n 0, 1) := by decide +kernel
theorem dX10_workOf_3 : decode cX10_workOf 3 = .ok (.aload_n 0, 1) := by decide +kernel
theorem dX10_workOf_4 : decode cX10_workOf 4 = .ok (.getfield 9, 3) := by decide +kernel
theorem dX10_workOf_7 : decode cX10_workOf 7 = .ok (.bipush 17, 2) := by decide +kernel
theorem dX10_workOf_9 : decode cX10_workOf 9 = .ok (.iaload, 1) := by decide +kernel
theorem dX10_workOf_10 : decode cX10_workOf 10 = .ok (.invokevirtual 370, 3) := by decide +kernel
theorem dX10_workOf_13 : decode cX10_workOf 13 = .ok (.aload_n 0, 1) := by decide +kernel
theorem dX10_workOf_14 : decode cX10_workOf 14 = .ok (.iload_n 1, 1) := by decide +kernel
theorem dX10_workOf_15 : decode cX10_workOf 15 = .ok (.invokevirtual 367, 3) := by decide +kernel
theorem dX10_workOf_18 : decode cX10_workOf 18 = .ok (.invokevirtual 361, 3) := by decide +kernel
theorem dX10_workOf_21 : decode cX10_workOf 21 = .ok (.putfield 373, 3) := by decide +kernel
theorem dX10_workOf_24 : decode cX10_workOf 24 = .ok (.aload_n 0, 1) := by decide +kernel
theorem dX10_workOf_25 : decode cX10_workOf 25 = .ok (.iconst 0, 1) := by decide +kernel
theorem dX10_workOf_26 : decode cX10_workOf 26 = .ok (.putfield 376, 3) := by decide +kernel
theorem dX10_workOf_29 : decode cX10_workOf 29 = .ok (.aload_n 0, 1) := by decide +kernel
theorem dX10_workOf_30 : decode cX10_workOf 30 = .ok (.iconst 0, 1) := by decide +kernel
theorem dX10_workOf_31 : decode cX10_workOf 31 = .ok (.putfield 379, 3) := by decide +kernel
theorem dX10_workOf_34 : decode cX10_workOf 34 = .ok (.iconst 0, 1) := by decide +kernel
theorem dX10_workOf_35 : decode cX10_workOf 35 = .ok (.istore_n 2, 1) := by decide +kernel
theorem dX10_workOf_36 : decode cX10_workOf 36 = .ok (.iload_n 2, 1) := by decide +kernel
theorem dX10_workOf_37 : decode cX10_workOf 37 = .ok (.bipush 8, 2) := by decide +kernel
theorem dX10_workOf_39 : decode cX10_workOf 39 = .ok (.if_icmp .ge 16, 3) := by decide +kernel
theorem dX10_workOf_42 : decode cX10_workOf 42 = .ok (.aload_n 0, 1) := by decide +kernel
theorem dX10_workOf_43 : decode cX10_workOf 43 = .ok (.getfield 68, 3) := by decide +kernel
theorem dX10_workOf_46 : decode cX10_workOf 46 = .ok (.iload_n 2, 1) := by decide +kernel
theorem dX10_workOf_47 : decode cX10_workOf 47 = .ok (.iconst 0, 1) := by decide +kernel
theorem dX10_workOf_48 : decode cX10_workOf 48 = .ok (.iastore, 1) := by decide +kernel
theorem dX10_workOf_49 : decode cX10_workOf 49 = .ok (.iinc 2 1, 3) := by decide +kernel
theorem dX10_workOf_52 : decode cX10_workOf 52 = .ok (.goto (-16), 3) := by decide +kernel
theorem dX10_workOf_55 : decode cX10_workOf 55 = .ok (.iconst 0, 1) := by decide +kernel
theorem dX10_workOf_56 : decode cX10_workOf 56 = .ok (.istore_n 2, 1) := by decide +kernel
theorem dX10_workOf_57 : decode cX10_workOf 57 = .ok (.iload_n 2, 1) := by decide +kernel
theorem dX10_workOf_58 : decode cX10_workOf 58 = .ok (.aload_n 0, 1) := by decide +kernel
theorem dX10_workOf_59 : decode cX10_workOf 59 = .ok (.getfield 94, 3) := by decide +kernel
theorem dX10_workOf_62 : decode cX10_workOf 62 = .ok (.if_icmp .ge 138, 3) := by decide +kernel
theorem dX10_workOf_65 : decode cX10_workOf 65 = .ok (.aload_n 0, 1) := by decide +kernel
theorem dX10_workOf_66 : decode cX10_workOf 66 = .ok (.getfield 337, 3) := by decide +kernel
theorem dX10_workOf_69 : decode cX10_workOf 69 = .ok (.iload_n 2, 1) := by decide +kernel
theorem dX10_workOf_70 : decode cX10_workOf 70 = .ok (.invokestatic 227, 3) := by decide +kernel
theorem dX10_workOf_73 : decode cX10_workOf 73 = .ok (.ifCond .ne 6, 3) := by decide +kernel
theorem dX10_workOf_76 : decode cX10_workOf 76 = .ok (.goto 118, 3) := by decide +kernel
theorem dX10_workOf_79 : decode cX10_workOf 79 = .ok (.iconst (-1), 1) := by decide +kernel
theorem dX10_workOf_80 : decode cX10_workOf 80 = .ok (.istore_n 3, 1) := by decide +kernel
theorem dX10_workOf_81 : decode cX10_workOf 81 = .ok (.iconst 0, 1) := by decide +kernel
theorem dX10_workOf_82 : decode cX10_workOf 82 = .ok (.istore 4, 2) := by decide +kernel
theorem dX10_workOf_84 : decode cX10_workOf 84 = .ok (.iload 4, 2) := by decide +kernel
theorem dX10_workOf_86 : decode cX10_workOf 86 = .ok (.aload_n 0, 1) := by decide +kernel
theorem dX10_workOf_87 : decode cX10_workOf 87 = .ok (.getfield 101, 3) := by decide +kernel
theorem dX10_workOf_90 : decode cX10_workOf 90 = .ok (.if_icmp .ge 66, 3) := by decide +kernel
theorem dX10_workOf_93 : decode cX10_workOf 93 = .ok (.iload_n 1, 1) := by decide +kernel
theorem dX10_workOf_94 : decode cX10_workOf 94 = .ok (.iload 4, 2) := by decide +kernel
theorem dX10_workOf_96 : decode cX10_workOf 96 = .ok (.invokestatic 227, 3) := by decide +kernel
theorem dX10_workOf_99 : decode cX10_workOf 99 = .ok (.ifCond .eq 51, 3) := by decide +kernel
theorem dX10_workOf_102 : decode cX10_workOf 102 = .ok (.aload_n 0, 1) := by decide +kernel
theorem dX10_workOf_103 : decode cX10_workOf 103 = .ok (.getfield 59, 3) := by decide +kernel
theorem dX10_workOf_106 : decode cX10_workOf 106 = .ok (.iload 4, 2) := by decide +kernel
theorem dX10_workOf_108 : decode cX10_workOf 108 = .ok (.iaload, 1) := by decide +kernel
theorem dX10_workOf_109 : decode cX10_workOf 109 = .ok (.iload_n 2, 1) := by decide +kernel
theorem dX10_workOf_110 : decode cX10_workOf 110 = .ok (.invokestatic 227, 3) := by decide +kernel
theorem dX10_workOf_113 : decode cX10_workOf 113 = .ok (.ifCond .eq 37, 3) := by decide +kernel
theorem dX10_workOf_116 : decode cX10_workOf 116 = .ok (.iload_n 3, 1) := by decide +kernel
theorem dX10_workOf_117 : decode cX10_workOf 117 = .ok (.iconst (-1), 1) := by decide +kernel
theorem dX10_workOf_118 : decode cX10_workOf 118 = .ok (.if_icmp .eq 29, 3) := by decide +kernel
theorem dX10_workOf_121 : decode cX10_workOf 121 = .ok (.aload_n 0, 1) := by decide +kernel
theorem dX10_workOf_122 : decode cX10_workOf 122 = .ok (.getfield 65, 3) := by decide +kernel
theorem dX10_workOf_125 : decode cX10_workOf 125 = .ok (.bipush 16, 2) := by decide +kernel
theorem dX10_workOf_127 : decode cX10_workOf 127 = .ok (.iload 4, 2) := by decide +kernel
theorem dX10_workOf_129 : decode cX10_workOf 129 = .ok (.imul, 1) := by decide +kernel
theorem dX10_workOf_130 : decode cX10_workOf 130 = .ok (.iload_n 2, 1) := by decide +kernel
theorem dX10_workOf_131 : decode cX10_workOf 131 = .ok (.iadd, 1) := by decide +kernel
theorem dX10_workOf_132 : decode cX10_workOf 132 = .ok (.iaload, 1) := by decide +kernel
theorem dX10_workOf_133 : decode cX10_workOf 133 = .ok (.aload_n 0, 1) := by decide +kernel
theorem dX10_workOf_134 : decode cX10_workOf 134 = .ok (.getfield 65, 3) := by decide +kernel
theorem dX10_workOf_137 : decode cX10_workOf 137 = .ok (.bipush 16, 2) := by decide +kernel
theorem dX10_workOf_139 : decode cX10_workOf 139 = .ok (.iload_n 3, 1) := by decide +kernel
theorem dX10_workOf_140 : decode cX10_workOf 140 = .ok (.imul, 1) := by decide +kernel
theorem dX10_workOf_141 : decode cX10_workOf 141 = .ok (.iload_n 2, 1) := by decide +kernel
theorem dX10_workOf_142 : decode cX10_workOf 142 = .ok (.iadd, 1) := by decide +kernel
theorem dX10_workOf_143 : decode cX10_workOf 143 = .ok (.iaload, 1) := by decide +kernel
theorem dX10_workOf_144 : decode cX10_workOf 144 = .ok (.if_icmp .ge 6, 3) := by decide +kernel
theorem dX10_workOf_147 : decode cX10_workOf 147 = .ok (.iload 4, 2) := by decide +kernel
theorem dX10_workOf_149 : decode cX10_workOf 149 = .ok (.istore_n 3, 1) := by decide +kernel
theorem dX10_workOf_150 : decode cX10_workOf 150 = .ok (.iinc 4 1, 3) := by decide +kernel
theorem dX10_workOf_153 : decode cX10_workOf 153 = .ok (.goto (-69), 3) := by decide +kernel
theorem dX10_workOf_156 : decode cX10_workOf 156 = .ok (.iload_n 3, 1) := by decide +kernel
theorem dX10_workOf_157 : decode cX10_workOf 157 = .ok (.iconst (-1), 1) := by decide +kernel
theorem dX10_workOf_158 : decode cX10_workOf 158 = .ok (.if_icmp .ne 6, 3) := by decide +kernel
theorem dX10_workOf_161 : decode cX10_workOf 161 = .ok (.goto 33, 3) := by decide +kernel
theorem dX10_workOf_164 : decode cX10_workOf 164 = .ok (.aload_n 0, 1) := by decide +kernel
theorem dX10_workOf_165 : decode cX10_workOf 165 = .ok (.dup, 1) := by decide +kernel
theorem dX10_workOf_166 : decode cX10_workOf 166 = .ok (.getfield 376, 3) := by decide +kernel
theorem dX10_workOf_169 : decode cX10_workOf 169 = .ok (.aload_n 0, 1) := by decide +kernel
theorem dX10_workOf_170 : decode cX10_workOf 170 = .ok (.getfield 65, 3) := by decide +kernel
theorem dX10_workOf_173 : decode cX10_workOf 173 = .ok (.bipush 16, 2) := by decide +kernel
theorem dX10_workOf_175 : decode cX10_workOf 175 = .ok (.iload_n 3, 1) := by decide +kernel
theorem dX10_workOf_176 : decode cX10_workOf 176 = .ok (.imul, 1) := by decide +kernel
theorem dX10_workOf_177 : decode cX10_workOf 177 = .ok (.iload_n 2, 1) := by decide +kernel
theorem dX10_workOf_178 : decode cX10_workOf 178 = .ok (.iadd, 1) := by decide +kernel
theorem dX10_workOf_179 : decode cX10_workOf 179 = .ok (.iaload, 1) := by decide +kernel
theorem dX10_workOf_180 : decode cX10_workOf 180 = .ok (.iadd, 1) := by decide +kernel
theorem dX10_workOf_181 : decode cX10_workOf 181 = .ok (.putfield 376, 3) := by decide +kernel
theorem dX10_workOf_184 : decode cX10_workOf 184 = .ok (.aload_n 0, 1) := by decide +kernel
theorem dX10_workOf_185 : decode cX10_workOf 185 = .ok (.getfield 68, 3) := by decide +kernel
theorem dX10_workOf_188 : decode cX10_workOf 188 = .ok (.iload_n 3, 1) := by decide +kernel
theorem dX10_workOf_189 : decode cX10_workOf 189 = .ok (.dup2, 1) := by decide +kernel
theorem dX10_workOf_190 : decode cX10_workOf 190 = .ok (.iaload, 1) := by decide +kernel
theorem dX10_workOf_191 : decode cX10_workOf 191 = .ok (.iconst 1, 1) := by decide +kernel
theorem dX10_workOf_192 : decode cX10_workOf 192 = .ok (.iadd, 1) := by decide +kernel
theorem dX10_workOf_193 : decode cX10_workOf 193 = .ok (.iastore, 1) := by decide +kernel
theorem dX10_workOf_194 : decode cX10_workOf 194 = .ok (.iinc 2 1, 3) := by decide +kernel
theorem dX10_workOf_197 : decode cX10_workOf 197 = .ok (.goto (-140), 3) := by decide +kernel
theorem dX10_workOf_200 : decode cX10_workOf 200 = .ok (.iconst 0, 1) := by decide +kernel
theorem dX10_workOf_201 : decode cX10_workOf 201 = .ok (.istore_n 2, 1) := by decide +kernel
theorem dX10_workOf_202 : decode cX10_workOf 202 = .ok (.iload_n 2, 1) := by decide +kernel
theorem dX10_workOf_203 : decode cX10_workOf 203 = .ok (.aload_n 0, 1) := by decide +kernel
theorem dX10_workOf_204 : decode cX10_workOf 204 = .ok (.getfield 101, 3) := by decide +kernel
theorem dX10_workOf_207 : decode cX10_workOf 207 = .ok (.if_icmp .ge 46, 3) := by decide +kernel
theorem dX10_workOf_210 : decode cX10_workOf 210 = .ok (.aload_n 0, 1) := by decide +kernel
theorem dX10_workOf_211 : decode cX10_workOf 211 = .ok (.dup, 1) := by decide +kernel
theorem dX10_workOf_212 : decode cX10_workOf 212 = .ok (.getfield 379, 3) := by decide +kernel
theorem dX10_workOf_215 : decode cX10_workOf 215 = .ok (.aload_n 0, 1) := by decide +kernel
theorem dX10_workOf_216 : decode cX10_workOf 216 = .ok (.getfield 68, 3) := by decide +kernel
theorem dX10_workOf_219 : decode cX10_workOf 219 = .ok (.iload_n 2, 1) := by decide +kernel
theorem dX10_workOf_220 : decode cX10_workOf 220 = .ok (.iaload, 1) := by decide +kernel
theorem dX10_workOf_221 : decode cX10_workOf 221 = .ok (.aload_n 0, 1) := by decide +kernel
theorem dX10_workOf_222 : decode cX10_workOf 222 = .ok (.getfield 31, 3) := by decide +kernel
theorem dX10_workOf_225 : decode cX10_workOf 225 = .ok (.iconst 4, 1) := by decide +kernel
theorem dX10_workOf_226 : decode cX10_workOf 226 = .ok (.iaload, 1) := by decide +kernel
theorem dX10_workOf_227 : decode cX10_workOf 227 = .ok (.iadd, 1) := by decide +kernel
theorem dX10_workOf_228 : decode cX10_workOf 228 = .ok (.iconst 1, 1) := by decide +kernel
theorem dX10_workOf_229 : decode cX10_workOf 229 = .ok (.isub, 1) := by decide +kernel
theorem dX10_workOf_230 : decode cX10_workOf 230 = .ok (.aload_n 0, 1) := by decide +kernel
theorem dX10_workOf_231 : decode cX10_workOf 231 = .ok (.getfield 31, 3) := by decide +kernel
theorem dX10_workOf_234 : decode cX10_workOf 234 = .ok (.iconst 4, 1) := by decide +kernel
theorem dX10_workOf_235 : decode cX10_workOf 235 = .ok (.iaload, 1) := by decide +kernel
theorem dX10_workOf_236 : decode cX10_workOf 236 = .ok (.idiv, 1) := by decide +kernel
theorem dX10_workOf_237 : decode cX10_workOf 237 = .ok (.aload_n 0, 1) := by decide +kernel
theorem dX10_workOf_238 : decode cX10_workOf 238 = .ok (.iload_n 2, 1) := by decide +kernel
theorem dX10_workOf_239 : decode cX10_workOf 239 = .ok (.invokevirtual 254, 3) := by decide +kernel
theorem dX10_workOf_242 : decode cX10_workOf 242 = .ok (.imul, 1) := by decide +kernel
theorem dX10_workOf_243 : decode cX10_workOf 243 = .ok (.iadd, 1) := by decide +kernel
theorem dX10_workOf_244 : decode cX10_workOf 244 = .ok (.putfield 379, 3) := by decide +kernel
theorem dX10_workOf_247 : decode cX10_workOf 247 = .ok (.iinc 2 1, 3) := by decide +kernel
theorem dX10_workOf_250 : decode cX10_workOf 250 = .ok (.goto (-48), 3) := by decide +kernel
theorem dX10_workOf_253 : decode cX10_workOf 253 = .ok (.aload_n 0, 1) := by decide +kernel
theorem dX10_workOf_254 : decode cX10_workOf 254 = .ok (.getfield 373, 3) := by decide +kernel
theorem dX10_workOf_257 : decode cX10_workOf 257 = .ok (.aload_n 0, 1) := by decide +kernel
theorem dX10_workOf_258 : decode cX10_workOf 258 = .ok (.getfield 376, 3) := by decide +kernel
theorem dX10_workOf_261 : decode cX10_workOf 261 = .ok (.iadd, 1) := by decide +kernel
theorem dX10_workOf_262 : decode cX10_workOf 262 = .ok (.aload_n 0, 1) := by decide +kernel
theorem dX10_workOf_263 : decode cX10_workOf 263 = .ok (.getfield 379, 3) := by decide +kernel
theorem dX10_workOf_266 : decode cX10_workOf 266 = .ok (.iadd, 1) := by decide +kernel
theorem dX10_workOf_267 : decode cX10_workOf 267 = .ok (.ireturn, 1) := by decide +kernel
theorem dX10_work_0 : decode cX10_work 0 = .ok (.aload_n 0, 1) := by decide +kernel
theorem dX10_work_1 : decode cX10_work 1 = .ok (.iconst 0, 1) := by decide +kernel
theorem dX10_work_2 : decode cX10_work 2 = .ok (.putfield 87, 3) := by decide +kernel
theorem dX10_work_5 : decode cX10_work 5 = .ok (.iload_n 1, 1) := by decide +kernel
theorem dX10_work_6 : decode cX10_work 6 = .ok (.iconst 0, 1) := by decide +kernel
theorem dX10_work_7 : decode cX10_work 7 = .ok (.aload_n 0, 1) := by decide +kernel
theorem dX10_work_8 : decode cX10_work 8 = .ok (.invokevirtual 331, 3) := by decide +kernel
theorem dX10_work_11 : decode cX10_work 11 = .ok (.invokestatic 97, 3) := by decide +kernel
theorem dX10_work_14 : decode cX10_work 14 = .ok (.ifCond .ne 5, 3) := by decide +kernel
theorem dX10_work_17 : decode cX10_work 17 = .ok (.iconst (-1), 1) := by decide +kernel
