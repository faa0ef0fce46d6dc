theorem dX3_leanNeeded_22 : decode cX3_leanNeeded 22 = .ok (.ifCond .eq 5, 3) := by decide +kernel
theorem dX3_leanNeeded_25 : decode cX3_leanNeeded 25 = .ok (.iload_n 3, 1) := by decide +kernel
theorem dX3_leanNeeded_26 : decode cX3_leanNeeded 26 = .ok (.ireturn, 1) := by decide +kernel
theorem dX3_leanNeeded_27 : decode cX3_leanNeeded 27 = .ok (.iinc 3 1, 3) := by decide +kernel
theorem dX3_leanNeeded_30 : decode cX3_leanNeeded 30 = .ok (.goto (-28), 3) := by decide +kernel
theorem dX3_leanNeeded_33 : decode cX3_leanNeeded 33 = .ok (.bipush (-2), 2) := by decide +kernel
theorem dX3_leanNeeded_35 : decode cX3_leanNeeded 35 = .ok (.ireturn, 1) := by decide +kernel
theorem dX9_nearest_0 : decode cX9_nearest 0 = .ok (.aload_n 0, 1) := by decide +kernel
theorem dX9_nearest_1 : decode cX9_nearest 1 = .ok (.getfield 34, 3) := by decide +kernel
theorem dX9_nearest_4 : decode cX9_nearest 4 = .ok (.iload_n 1, 1) := by decide +kernel
theorem dX9_nearest_5 : decode cX9_nearest 5 = .ok (.invokevirtual 117, 3) := by decide +kernel
theorem dX9_nearest_8 : decode cX9_nearest 8 = .ok (.ifCond .ne 5, 3) := by decide +kernel
theorem dX9_nearest_11 : decode cX9_nearest 11 = .ok (.iconst (-1), 1) := by decide +kernel
theorem dX9_nearest_12 : decode cX9_nearest 12 = .ok (.ireturn, 1) := by decide +kernel
theorem dX9_nearest_13 : decode cX9_nearest 13 = .ok (.bipush (-2), 2) := by decide +kernel
theorem dX9_nearest_15 : decode cX9_nearest 15 = .ok (.istore_n 2, 1) := by decide +kernel
theorem dX9_nearest_16 : decode cX9_nearest 16 = .ok (.bipush 31, 2) := by decide +kernel
theorem dX9_nearest_18 : decode cX9_nearest 18 = .ok (.istore_n 3, 1) := by decide +kernel
theorem dX9_nearest_19 : decode cX9_nearest 19 = .ok (.iconst 0, 1) := by decide +kernel
theorem dX9_nearest_20 : decode cX9_nearest 20 = .ok (.istore 4, 2) := by decide +kernel
theorem dX9_nearest_22 : decode cX9_nearest 22 = .ok (.iload 4, 2) := by decide +kernel
theorem dX9_nearest_24 : decode cX9_nearest 24 = .ok (.aload_n 0, 1) := by decide +kernel
theorem dX9_nearest_25 : decode cX9_nearest 25 = .ok (.getfield 34, 3) := by decide +kernel
theorem dX9_nearest_28 : decode cX9_nearest 28 = .ok (.getfield 250, 3) := by decide +kernel
theorem dX9_nearest_31 : decode cX9_nearest 31 = .ok (.if_icmp .ge 38, 3) := by decide +kernel
theorem dX9_nearest_34 : decode cX9_nearest 34 = .ok (.aload_n 0, 1) := by decide +kernel
theorem dX9_nearest_35 : decode cX9_nearest 35 = .ok (.getfield 34, 3) := by decide +kernel
theorem dX9_nearest_38 : decode cX9_nearest 38 = .ok (.iload_n 1, 1) := by decide +kernel
theorem dX9_nearest_39 : decode cX9_nearest 39 = .ok (.iload 4, 2) := by decide +kernel
theorem dX9_nearest_41 : decode cX9_nearest 41 = .ok (.invokevirtual 271, 3) := by decide +kernel
theorem dX9_nearest_44 : decode cX9_nearest 44 = .ok (.istore 5, 2) := by decide +kernel
theorem dX9_nearest_46 : decode cX9_nearest 46 = .ok (.iload 5, 2) := by decide +kernel
theorem dX9_nearest_48 : decode cX9_nearest 48 = .ok (.ifCond .lt 15, 3) := by decide +kernel
theorem dX9_nearest_51 : decode cX9_nearest 51 = .ok (.iload 5, 2) := by decide +kernel
theorem dX9_nearest_53 : decode cX9_nearest 53 = .ok (.iload_n 3, 1) := by decide +kernel
theorem dX9_nearest_54 : decode cX9_nearest 54 = .ok (.if_icmp .ge 9, 3) := by decide +kernel
theorem dX9_nearest_57 : decode cX9_nearest 57 = .ok (.iload 4, 2) := by decide +kernel
theorem dX9_nearest_59 : decode cX9_nearest 59 = .ok (.istore_n 2, 1) := by decide +kernel
theorem dX9_nearest_60 : decode cX9_nearest 60 = .ok (.iload 5, 2) := by decide +kernel
theorem dX9_nearest_62 : decode cX9_nearest 62 = .ok (.istore_n 3, 1) := by decide +kernel
theorem dX9_nearest_63 : decode cX9_nearest 63 = .ok (.iinc 4 1, 3) := by decide +kernel
theorem dX9_nearest_66 : decode cX9_nearest 66 = .ok (.goto (-44), 3) := by decide +kernel
theorem dX9_nearest_69 : decode cX9_nearest 69 = .ok (.iload_n 2, 1) := by decide +kernel
theorem dX9_nearest_70 : decode cX9_nearest 70 = .ok (.ifCond .lt 8, 3) := by decide +kernel
theorem dX9_nearest_73 : decode cX9_nearest 73 = .ok (.aload_n 0, 1) := by decide +kernel
theorem dX9_nearest_74 : decode cX9_nearest 74 = .ok (.iload_n 3, 1) := by decide +kernel
theorem dX9_nearest_75 : decode cX9_nearest 75 = .ok (.invokevirtual 260, 3) := by decide +kernel
theorem dX9_nearest_78 : decode cX9_nearest 78 = .ok (.iload_n 2, 1) := by decide +kernel
theorem dX9_nearest_79 : decode cX9_nearest 79 = .ok (.ireturn, 1) := by decide +kernel
theorem dX5_isEarlier_0 : decode cX5_isEarlier 0 = .ok (.iload_n 0, 1) := by decide +kernel
theorem dX5_isEarlier_1 : decode cX5_isEarlier 1 = .ok (.invokestatic 94, 3) := by decide +kernel
theorem dX5_isEarlier_4 : decode cX5_isEarlier 4 = .ok (.iload_n 1, 1) := by decide +kernel
theorem dX5_isEarlier_5 : decode cX5_isEarlier 5 = .ok (.invokestatic 94, 3) := by decide +kernel
theorem dX5_isEarlier_8 : decode cX5_isEarlier 8 = .ok (.isub, 1) := by decide +kernel
theorem dX5_isEarlier_9 : decode cX5_isEarlier 9 = .ok (.istore_n 2, 1) := by decide +kernel
theorem dX5_isEarlier_10 : decode cX5_isEarlier 10 = .ok (.iload_n 0, 1) := by decide +kernel
theorem dX5_isEarlier_11 : decode cX5_isEarlier 11 = .ok (.iload_n 1, 1) := by decide +kernel
theorem dX5_isEarlier_12 : decode cX5_isEarlier 12 = .ok (.ixor, 1) := by decide +kernel
theorem dX5_isEarlier_13 : decode cX5_isEarlier 13 = .ok (.istore_n 3, 1) := by decide +kernel
theorem dX5_isEarlier_14 : decode cX5_isEarlier 14 = .ok (.iload_n 2, 1) := by decide +kernel
theorem dX5_isEarlier_15 : decode cX5_isEarlier 15 = .ok (.ifCond .lt 16, 3) := by decide +kernel
theorem dX5_isEarlier_18 : decode cX5_isEarlier 18 = .ok (.iload_n 2, 1) := by decide +kernel
theorem dX5_isEarlier_19 : decode cX5_isEarlier 19 = .ok (.ifCond .ne 16, 3) := by decide +kernel
theorem dX5_isEarlier_22 : decode cX5_isEarlier 22 = .ok (.iload_n 0, 1) := by decide +kernel
theorem dX5_isEarlier_23 : decode cX5_isEarlier 23 = .ok (.iload_n 3, 1) := by decide +kernel
theorem dX5_isEarlier_24 : decode cX5_isEarlier 24 = .ok (.iand, 1) := by decide +kernel
theorem dX5_isEarlier_25 : decode cX5_isEarlier 25 = .ok (.iload_n 3, 1) := by decide +kernel
theorem dX5_isEarlier_26 : decode cX5_isEarlier 26 = .ok (.ineg, 1) := by decide +kernel
theorem dX5_isEarlier_27 : decode cX5_isEarlier 27 = .ok (.iand, 1) := by decide +kernel
theorem dX5_isEarlier_28 : decode cX5_isEarlier 28 = .ok (.ifCond .eq 7, 3) := by decide +kernel
theorem dX5_isEarlier_31 : decode cX5_isEarlier 31 = .ok (.iconst 1, 1) := by decide +kernel
theorem dX5_isEarlier_32 : decode cX5_isEarlier 32 = .ok (.goto 4, 3) := by decide +kernel
theorem dX5_isEarlier_35 : decode cX5_isEarlier 35 = .ok (.iconst 0, 1) := by decide +kernel
theorem dX5_isEarlier_36 : decode cX5_isEarlier 36 = .ok (.ireturn, 1) := by decide +kernel
theorem dX5_smallestCover_0 : decode cX5_smallestCover 0 = .ok (.iload_n 2, 1) := by decide +kernel
theorem dX5_smallestCover_1 : decode cX5_smallestCover 1 = .ok (.istore_n 3, 1) := by decide +kernel
theorem dX5_smallestCover_2 : decode cX5_smallestCover 2 = .ok (.iconst 0, 1) := by decide +kernel
theorem dX5_smallestCover_3 : decode cX5_smallestCover 3 = .ok (.istore 4, 2) := by decide +kernel
theorem dX5_smallestCover_5 : decode cX5_smallestCover 5 = .ok (.iload 4, 2) := by decide +kernel
theorem dX5_smallestCover_7 : decode cX5_smallestCover 7 = .ok (.iload_n 2, 1) := by decide +kernel
theorem dX5_smallestCover_8 : decode cX5_smallestCover 8 = .ok (.if_icmp .ge 43, 3) := by decide +kernel
theorem dX5_smallestCover_11 : decode cX5_smallestCover 11 = .ok (.iload 4, 2) := by decide +kernel
theorem dX5_smallestCover_13 : decode cX5_smallestCover 13 = .ok (.iload_n 2, 1) := by decide +kernel
theorem dX5_smallestCover_14 : decode cX5_smallestCover 14 = .ok (.iconst (-1), 1) := by decide +kernel
theorem dX5_smallestCover_15 : decode cX5_smallestCover 15 = .ok (.ixor, 1) := by decide +kernel
theorem dX5_smallestCover_16 : decode cX5_smallestCover 16 = .ok (.iand, 1) := by decide +kernel
theorem dX5_smallestCover_17 : decode cX5_smallestCover 17 = .ok (.ifCond .ne 28, 3) := by decide +kernel
theorem dX5_smallestCover_20 : decode cX5_smallestCover 20 = .ok (.iload_n 1, 1) := by decide +kernel
theorem dX5_smallestCover_21 : decode cX5_smallestCover 21 = .ok (.aload_n 0, 1) := by decide +kernel
theorem dX5_smallestCover_22 : decode cX5_smallestCover 22 = .ok (.iload 4, 2) := by decide +kernel
theorem dX5_smallestCover_24 : decode cX5_smallestCover 24 = .ok (.invokevirtual 81, 3) := by decide +kernel
theorem dX5_smallestCover_27 : decode cX5_smallestCover 27 = .ok (.iconst (-1), 1) := by decide +kernel
theorem dX5_smallestCover_28 : decode cX5_smallestCover 28 = .ok (.ixor, 1) := by decide +kernel
theorem dX5_smallestCover_29 : decode cX5_smallestCover 29 = .ok (.iand, 1) := by decide +kernel
theorem dX5_smallestCover_30 : decode cX5_smallestCover 30 = .ok (.ifCond .ne 15, 3) := by decide +kernel
theorem dX5_smallestCover_33 : decode cX5_smallestCover 33 = .ok (.iload 4, 2) := by decide +kernel
theorem dX5_smallestCover_35 : decode cX5_smallestCover 35 = .ok (.iload_n 3, 1) := by decide +kernel
theorem dX5_smallestCover_36 : decode cX5_smallestCover 36 = .ok (.invokestatic 90, 3) := by decide +kernel
theorem dX5_smallestCover_39 : decode cX5_smallestCover 39 = .ok (.ifCond .eq 6, 3) := by decide +kernel
theorem dX5_smallestCover_42 : decode cX5_smallestCover 42 = .ok (.iload 4, 2) := by decide +kernel
theorem dX5_smallestCover_44 : decode cX5_smallestCover 44 = .ok (.istore_n 3, 1) := by decide +kernel
theorem dX5_smallestCover_45 : decode cX5_smallestCover 45 = .ok (.iinc 4 1, 3) := by decide +kernel
theorem dX5_smallestCover_48 : decode cX5_smallestCover 48 = .ok (.goto (-43), 3) := by decide +kernel
theorem dX5_smallestCover_51 : decode cX5_smallestCover 51 = .ok (.iload_n 3, 1) := by decide +kernel
theorem dX5_smallestCover_52 : decode cX5_smallestCover 52 = .ok (.ireturn, 1) := by decide +kernel
theorem dX9_tellMembers_0 : decode cX9_tellMembers 0 = .ok (.aload_n 0, 1) := by decide +kernel
theorem dX9_tellMembers_1 : decode cX9_tellMembers 1 = .ok (.getfield 50, 3) := by decide +kernel
theorem dX9_tellMembers_4 : decode cX9_tellMembers 4 = .ok (.invokevirtual 304, 3) := by decide +kernel
theorem dX9_tellMembers_7 : decode cX9_tellMembers 7 = .ok (.iconst 0, 1) := by decide +kernel
theorem dX9_tellMembers_8 : decode cX9_tellMembers 8 = .ok (.istore_n 2, 1) := by decide +kernel
theorem dX9_tellMembers_9 : decode cX9_tellMembers 9 = .ok (.iload_n 2, 1) := by decide +kernel
theorem dX9_tellMembers_10 : decode cX9_tellMembers 10 = .ok (.bipush 8, 2) := by decide +kernel
theorem dX9_tellMembers_12 : decode cX9_tellMembers 12 = .ok (.if_icmp .ge 25, 3) := by decide +kernel
theorem dX9_tellMembers_15 : decode cX9_tellMembers 15 = .ok (.iload_n 1, 1) := by decide +kernel
theorem dX9_tellMembers_16 : decode cX9_tellMembers 16 = .ok (.iload_n 2, 1) := by decide +kernel
theorem dX9_tellMembers_17 : decode cX9_tellMembers 17 = .ok (.ishr, 1) := by decide +kernel
theorem dX9_tellMembers_18 : decode cX9_tellMembers 18 = .ok (.iconst 1, 1) := by decide +kernel
theorem dX9_tellMembers_19 : decode cX9_tellMembers 19 = .ok (.iand, 1) := by decide +kernel
theorem dX9_tellMembers_20 : decode cX9_tellMembers 20 = .ok (.ifCond .eq 11, 3) := by decide +kernel
theorem dX9_tellMembers_23 : decode cX9_tellMembers 23 = .ok (.aload_n 0, 1) := by decide +kernel
theorem dX9_tellMembers_24 : decode cX9_tellMembers 24 = .ok (.getfield 50, 3) := by decide +kernel
theorem dX9_tellMembers_27 : decode cX9_tellMembers 27 = .ok (.iload_n 2, 1) := by decide +kernel
theorem dX9_tellMembers_28 : decode cX9_tellMembers 28 = .ok (.invokevirtual 318, 3) := by decide +kernel
theorem dX9_tellMembers_31 : decode cX9_tellMembers 31 = .ok (.iinc 2 1, 3) := by decide +kernel
theorem dX9_tellMembers_34 : decode cX9_tellMembers 34 = .ok (.goto (-25), 3) := by decide +kernel
theorem dX9_tellMembers_37 : decode cX9_tellMembers 37 = .ok (.aload_n 0, 1) := by decide +kernel
theorem dX9_tellMembers_38 : decode cX9_tellMembers 38 = .ok (.getfield 50, 3) := by decide +kernel
theorem dX9_tellMembers_41 : decode cX9_tellMembers 41 = .ok (.getfield 374, 3) := by decide +kernel
theorem dX9_tellMembers_44 : decode cX9_tellMembers 44 = .ok (.ireturn, 1) := by decide +kernel
theorem dX9_fewest_0 : decode cX9_fewest 0 = .ok (.aload_n 0, 1) := by decide +kernel
theorem dX9_fewest_1 : decode cX9_fewest 1 = .ok (.getfield 19, 3) := by decide +kernel
theorem dX9_fewest_4 : decode cX9_fewest 4 = .ok (.invokevirtual 265, 3) := by decide +kernel
theorem dX9_fewest_7 : decode cX9_fewest 7 = .ok (.aload_n 0, 1) := by decide +kernel
theorem dX9_fewest_8 : decode cX9_fewest 8 = .ok (.aload_n 0, 1) := by decide +kernel
theorem dX9_fewest_9 : decode cX9_fewest 9 = .ok (.getfield 19, 3) := by decide +kernel
theorem dX9_fewest_12 : decode cX9_fewest 12 = .ok (.aload_n 0, 1) := by decide +kernel
theorem dX9_fewest_13 : decode cX9_fewest 13 = .ok (.getfield 19, 3) := by decide +kernel
theorem dX9_fewest_16 : decode cX9_fewest 16 = .ok (.getfield 274, 3) := by decide +kernel
theorem dX9_fewest_19 : decode cX9_fewest 19 = .ok (.aload_n 0, 1) := by decide +kernel
theorem dX9_fewest_20 : decode cX9_fewest 20 = .ok (.getfield 34, 3) := by decide +kernel
theorem dX9_fewest_23 : decode cX9_fewest 23 = .ok (.invokevirtual 277, 3) := by decide +kernel
theorem dX9_fewest_26 : decode cX9_fewest 26 = .ok (.invokevirtual 280, 3) := by decide +kernel
theorem dX9_fewest_29 : decode cX9_fewest 29 = .ok (.invokevirtual 283, 3) := by decide +kernel
theorem dX9_fewest_32 : decode cX9_fewest 32 = .ok (.ireturn, 1) := by decide +kernel
theorem dX9_needed_0 : decode cX9_needed 0 = .ok (.aload_n 0, 1) := by decide +kernel
theorem dX9_needed_1 : decode cX9_needed 1 = .ok (.getfield 19, 3) := by decide +kernel
theorem dX9_needed_4 : decode cX9_needed 4 = .ok (.invokevirtual 265, 3) := by decide +kernel
theorem dX9_needed_7 : decode cX9_needed 7 = .ok (.iconst 0, 1) := by decide +kernel
theorem dX9_needed_8 : decode cX9_needed 8 = .ok (.istore_n 1, 1) := by decide +kernel
theorem dX9_needed_9 : decode cX9_needed 9 = .ok (.iconst 0, 1) := by decide +kernel
theorem dX9_needed_10 : decode cX9_needed 10 = .ok (.istore_n 2, 1) := by decide +kernel
theorem dX9_needed_11 : decode cX9_needed 11 = .ok (.iconst 0, 1) := by decide +kernel
theorem dX9_needed_12 : decode cX9_needed 12 = .ok (.istore_n 3, 1) := by decide +kernel
theorem dX9_needed_13 : decode cX9_needed 13 = .ok (.iload_n 3, 1) := by decide +kernel
theorem dX9_needed_14 : decode cX9_needed 14 = .ok (.aload_n 0, 1) := by decide +kernel
theorem dX9_needed_15 : decode cX9_needed 15 = .ok (.getfield 34, 3) := by decide +kernel
theorem dX9_needed_18 : decode cX9_needed 18 = .ok (.getfield 250, 3) := by decide +kernel
theorem dX9_needed_21 : decode cX9_needed 21 = .ok (.if_icmp .ge 61, 3) := by decide +kernel
theorem dX9_needed_24 : decode cX9_needed 24 = .ok (.aload_n 0, 1) := by decide +kernel
theorem dX9_needed_25 : decode cX9_needed 25 = .ok (.getfield 34, 3) := by decide +kernel
theorem dX9_needed_28 : decode cX9_needed 28 = .ok (.invokevirtual 277, 3) := by decide +kernel
theorem dX9_needed_31 : decode cX9_needed 31 = .ok (.iconst 1, 1) := by decide +kernel
theorem dX9_needed_32 : decode cX9_needed 32 = .ok (.iload_n 3, 1) := by decide +kernel
theorem dX9_needed_33 : decode cX9_needed 33 = .ok (.ishl, 1) := by decide +kernel
theorem dX9_needed_34 : decode cX9_needed 34 = .ok (.iconst (-1), 1) := by decide +kernel
theorem dX9_needed_35 : decode cX9_needed 35 = .ok (.ixor, 1) := by decide +kernel
theorem dX9_needed_36 : decode cX9_needed 36 = .ok (.iand, 1) := by decide +kernel
theorem dX9_needed_37 : decode cX9_needed 37 = .ok (.istore 4, 2) := by decide +kernel
theorem dX9_needed_39 : decode cX9_needed 39 = .ok (.aload_n 0, 1) := by decide +kernel
theorem dX9_needed_40 : decode cX9_needed 40 = .ok (.getfield 19, 3) := by decide +kernel
theorem dX9_needed_43 : decode cX9_needed 43 = .ok (.getfield 274, 3) := by decide +kernel
theorem dX9_needed_46 : decode cX9_needed 46 = .ok (.aload_n 0, 1) := by decide +kernel
theorem dX9_needed_47 : decode cX9_needed 47 = .ok (.getfield 19, 3) := by decide +kernel
theorem dX9_needed_50 : decode cX9_needed 50 = .ok (.iload 4, 2) := by decide +kernel
theorem dX9_needed_52 : decode cX9_needed 52 = .ok (.invokevirtual 286, 3) := by decide +kernel
theorem dX9_needed_55 : decode cX9_needed 55 = .ok (.iconst (-1), 1) := by decide +kernel
theorem dX9_needed_56 : decode cX9_needed 56 = .ok (.ixor, 1) := by decide +kernel
theorem dX9_needed_57 : decode cX9_needed 57 = .ok (.iand, 1) := by decide +kernel
theorem dX9_needed_58 : decode cX9_needed 58 = .ok (.istore 5, 2) := by decide +kernel
theorem dX9_needed_60 : decode cX9_needed 60 = .ok (.iload 5, 2) := by decide +kernel
theorem dX9_needed_62 : decode cX9_needed 62 = .ok (.ifCond .eq 14, 3) := by decide +kernel
theorem dX9_needed_65 : decode cX9_needed 65 = .ok (.iload_n 1, 1) := by decide +kernel
theorem dX9_needed_66 : decode cX9_needed 66 = .ok (.iconst 1, 1) := by decide +kernel
theorem dX9_needed_67 : decode cX9_needed 67 = .ok (.iload_n 3, 1) := by decide +kernel
theorem dX9_needed_68 : decode cX9_needed 68 = .ok (.ishl, 1) := by decide +kernel
theorem dX9_needed_69 : decode cX9_needed 69 = .ok (.ior, 1) := by decide +kernel
theorem dX9_needed_70 : decode cX9_needed 70 = .ok (.istore_n 1, 1) := by decide +kernel
theorem dX9_needed_71 : decode cX9_needed 71 = .ok (.iload_n 2, 1) := by decide +kernel
theorem dX9_needed_72 : decode cX9_needed 72 = .ok (.iload 5, 2) := by decide +kernel
theorem dX9_needed_74 : decode cX9_needed 74 = .ok (.ior, 1) := by decide +kernel
theorem dX9_needed_75 : decode cX9_needed 75 = .ok (.istore_n 2, 1) := by decide +kernel
theorem dX9_needed_76 : decode cX9_needed 76 = .ok (.iinc 3 1, 3) := by decide +kernel
theorem dX9_needed_79 : decode cX9_needed 79 = .ok (.goto (-66), 3) := by decide +kernel
theorem dX9_needed_82 : decode cX9_needed 82 = .ok (.aload_n 0, 1) := by decide +kernel
theorem dX9_needed_83 : decode cX9_needed 83 = .ok (.iload_n 2, 1) := by decide +kernel
theorem dX9_needed_84 : decode cX9_needed 84 = .ok (.invokevirtual 260, 3) := by decide +kernel
theorem dX9_needed_87 : decode cX9_needed 87 = .ok (.iload_n 1, 1) := by decide +kernel
theorem dX9_needed_88 : decode cX9_needed 88 = .ok (.ireturn, 1) := by decide +kernel
theorem dX5_worthLeft_0 : decode cX5_worthLeft 0 = .ok (.aload_n 0, 1) := by decide +kernel
theorem dX5_worthLeft_1 : decode cX5_worthLeft 1 = .ok (.getfield 14, 3) := by decide +kernel
theorem dX5_worthLeft_4 : decode cX5_worthLeft 4 = .ok (.aload_n 0, 1) := by decide +kernel
theorem dX5_worthLeft_5 : decode cX5_worthLeft 5 = .ok (.getfield 84, 3) := by decide +kernel
theorem dX5_worthLeft_8 : decode cX5_worthLeft 8 = .ok (.aload_n 0, 1) := by decide +kernel
theorem dX5_worthLeft_9 : decode cX5_worthLeft 9 = .ok (.iload_n 1, 1) := by decide +kernel
theorem dX5_worthLeft_10 : decode cX5_worthLeft 10 = .ok (.invokevirtual 81, 3) := by decide +kernel
theorem dX5_worthLeft_13 : decode cX5_worthLeft 13 = .ok (.iconst (-1), 1) := by decide +kernel
theorem dX5_worthLeft_14 : decode cX5_worthLeft 14 = .ok (.ixor, 1) := by decide +kernel
theorem dX5_worthLeft_15 : decode cX5_worthLeft 15 = .ok (.iand, 1) := by decide +kernel
theorem dX5_worthLeft_16 : decode cX5_worthLeft 16 = .ok (.invokevirtual 87, 3) := by decide +kernel
theorem dX5_worthLeft_19 : decode cX5_worthLeft 19 = .ok (.ireturn, 1) := by decide +kernel
theorem dX9_isFewer_0 : decode cX9_isFewer 0 = .ok (.iload_n 0, 1) := by decide +kernel
theorem dX9_isFewer_1 : decode cX9_isFewer 1 = .ok (.invokestatic 292, 3) := by decide +kernel
theorem dX9_isFewer_4 : decode cX9_isFewer 4 = .ok (.iload_n 1, 1) := by decide +kernel
theorem dX9_isFewer_5 : decode cX9_isFewer 5 = .ok (.invokestatic 292, 3) := by decide +kernel
theorem dX9_isFewer_8 : decode cX9_isFewer 8 = .ok (.isub, 1) := by decide +kernel
theorem dX9_isFewer_9 : decode cX9_isFewer 9 = .ok (.istore_n 2, 1) := by decide +kernel
theorem dX9_isFewer_10 : decode cX9_isFewer 10 = .ok (.iload_n 2, 1) := by decide +kernel
theorem dX9_isFewer_11 : decode cX9_isFewer 11 = .ok (.ifCond .lt 12, 3) := by decide +kernel
theorem dX9_isFewer_14 : decode cX9_isFewer 14 = .ok (.iload_n 2, 1) := by decide +kernel
theorem dX9_isFewer_15 : decode cX9_isFewer 15 = .ok (.ifCond .ne 12, 3) := by decide +kernel
theorem dX9_isFewer_18 : decode cX9_isFewer 18 = .ok (.iload_n 0, 1) := by decide +kernel
theorem dX9_isFewer_19 : decode cX9_isFewer 19 = .ok (.iload_n 1, 1) := by decide +kernel
theorem dX9_isFewer_20 : decode cX9_isFewer 20 = .ok (.if_icmp .ge 7, 3) := by decide +kernel
theorem dX9_isFewer_23 : decode cX9_isFewer 23 = .ok (.iconst 1, 1) := by decide +kernel
theorem dX9_isFewer_24 : decode cX9_isFewer 24 = .ok (.goto 4, 3) := by decide +kernel
theorem dX9_isFewer_27 : decode cX9_isFewer 27 = .ok (.iconst 0, 1) := by decide +kernel
theorem dX9_isFewer_28 : decode cX9_isFewer 28 = .ok (.ireturn, 1) := by decide +kernel
theorem dX9_birds_0 : decode cX9_birds 0 = .ok (.iload_n 1, 1) := by decide +kernel
theorem dX9_birds_1 : decode cX9_birds 1 = .ok (.ifCond .lt 9, 3) := by decide +kernel
theorem dX9_birds_4 : decode cX9_birds 4 = .ok (.iload_n 1, 1) := by decide +kernel
theorem dX9_birds_5 : decode cX9_birds 5 = .ok (.bipush 8, 2) := by decide +kernel
theorem dX9_birds_7 : decode cX9_birds 7 = .ok (.if_icmp .le 5, 3) := by decide +kernel
theorem dX9_birds_10 : decode cX9_birds 10 = .ok (.iconst (-1), 1) := by decide +kernel
theorem dX9_birds_11 : decode cX9_birds 11 = .ok (.ireturn, 1) := by decide +kernel
theorem dX9_birds_12 : decode cX9_birds 12 = .ok (.aload_n 0, 1) := by decide +kernel
theorem dX9_birds_13 : decode cX9_birds 13 = .ok (.getfield 19, 3) := by decide +kernel
theorem dX9_birds_16 : decode cX9_birds 16 = .ok (.invokevirtual 265, 3) := by decide +kernel
theorem dX9_birds_19 : decode cX9_birds 19 = .ok (.iconst 0, 1) := by decide +kernel
theorem dX9_birds_20 : decode cX9_birds 20 = .ok (.istore_n 2, 1) := by decide +kernel
theorem dX9_birds_21 : decode cX9_birds 21 = .ok (.aload_n 0, 1) := by decide +kernel
theorem dX9_birds_22 : decode cX9_birds 22 = .ok (.getfield 19, 3) := by decide +kernel
theorem dX9_birds_25 : decode cX9_birds 25 = .ok (.iconst 0, 1) := by decide +kernel
theorem dX9_birds_26 : decode cX9_birds 26 = .ok (.invokevirtual 289, 3) := by decide +kernel
theorem dX9_birds_29 : decode cX9_birds 29 = .ok (.istore_n 3, 1) := by decide +kernel
theorem dX9_birds_30 : decode cX9_birds 30 = .ok (.iconst 1, 1) := by decide +kernel
theorem dX9_birds_31 : decode cX9_birds 31 = .ok (.istore 4, 2) := by decide +kernel
theorem dX9_birds_33 : decode cX9_birds 33 = .ok (.iload 4, 2) := by decide +kernel
theorem dX9_birds_35 : decode cX9_birds 35 = .ok (.aload_n 0, 1) := by decide +kernel
theorem dX9_birds_36 : decode cX9_birds 36 = .ok (.getfield 34, 3) := by decide +kernel
theorem dX9_birds_39 : decode cX9_birds 39 = .ok (.invokevirtual 277, 3) := by decide +kernel
theorem dX9_birds_42 : decode cX9_birds 42 = .ok (.if_icmp .gt 56, 3) := by decide +kernel
theorem dX9_birds_45 : decode cX9_birds 45 = .ok (.iload 4, 2) := by decide +kernel
theorem dX9_birds_47 : decode cX9_birds 47 = .ok (.invokestatic 292, 3) := by decide +kernel
theorem dX9_birds_50 : decode cX9_birds 50 = .ok (.iload_n 1, 1) := by decide +kernel
theorem dX9_birds_51 : decode cX9_birds 51 = .ok (.if_icmp .gt 41, 3) := by decide +kernel
theorem dX9_birds_54 : decode cX9_birds 54 = .ok (.aload_n 0, 1) := by decide +kernel
theorem dX9_birds_55 : decode cX9_birds 55 = .ok (.getfield 19, 3) := by decide +kernel
theorem dX9_birds_58 : decode cX9_birds 58 = .ok (.iload 4, 2) := by decide +kernel
theorem dX9_birds_60 : decode cX9_birds 60 = .ok (.invokevirtual 289, 3) := by decide +kernel
theorem dX9_birds_63 : decode cX9_birds 63 = .ok (.istore 5, 2) := by decide +kernel
theorem dX9_birds_65 : decode cX9_birds 65 = .ok (.iload 5, 2) := by decide +kernel
theorem dX9_birds_67 : decode cX9_birds 67 = .ok (.iload_n 3, 1) := by decide +kernel
theorem dX9_birds_68 : decode cX9_birds 68 = .ok (.if_icmp .lt 18, 3) := by decide +kernel
theorem dX9_birds_71 : decode cX9_birds 71 = .ok (.iload 5, 2) := by decide +kernel
theorem dX9_birds_73 : decode cX9_birds 73 = .ok (.iload_n 3, 1) := by decide +kernel
theorem dX9_birds_74 : decode cX9_birds 74 = .ok (.if_icmp .ne 18, 3) := by decide +kernel
theorem dX9_birds_77 : decode cX9_birds 77 = .ok (.iload 4, 2) := by decide +kernel
theorem dX9_birds_79 : decode cX9_birds 79 = .ok (.iload_n 2, 1) := by decide +kernel
theorem dX9_birds_80 : decode cX9_birds 80 = .ok (.invokestatic 297, 3) := by decide +kernel
theorem dX9_birds_83 : decode cX9_birds 83 = .ok (.ifCond .eq 9, 3) := by decide +kernel
theorem dX9_birds_86 : decode cX9_birds 86 = .ok (.iload 4, 2) := by decide +kernel
theorem dX9_birds_88 : decode cX9_birds 88 = .ok (.istore_n 2, 1) := by decide +kernel
theorem dX9_birds_89 : decode cX9_birds 89 = .ok (.iload 5, 2) := by decide +kernel
theorem dX9_birds_91 : decode cX9_birds 91 = .ok (.istore_n 3, 1) := by decide +kernel
theorem dX9_birds_92 : decode cX9_birds 92 = .ok (.iinc 4 1, 3) := by decide +kernel
theorem dX9_birds_95 : decode cX9_birds 95 = .ok (.goto (-62), 3) := by decide +kernel
theorem dX9_birds_98 : decode cX9_birds 98 = .ok (.aload_n 0, 1) := by decide +kernel
theorem dX9_birds_99 : decode cX9_birds 99 = .ok (.iload_n 2, 1) := by decide +kernel
theorem dX9_birds_100 : decode cX9_birds 100 = .ok (.aload_n 0, 1) := by decide +kernel
theorem dX9_birds_101 : decode cX9_birds 101 = .ok (.getfield 19, 3) := by decide +kernel
theorem dX9_birds_104 : decode cX9_birds 104 = .ok (.getfield 274, 3) := by decide +kernel
theorem dX9_birds_107 : decode cX9_birds 107 = .ok (.aload_n 0, 1) := by decide +kernel
theorem dX9_birds_108 : decode cX9_birds 108 = .ok (.getfield 19, 3) := by decide +kernel
theorem dX9_birds_111 : decode cX9_birds 111 = .ok (.iload_n 2, 1) := by decide +kernel
theorem dX9_birds_112 : decode cX9_birds 112 = .ok (.invokevirtual 286, 3) := by decide +kernel
theorem dX9_birds_115 : decode cX9_birds 115 = .ok (.iconst (-1), 1) := by decide +kernel
theorem dX9_birds_116 : decode cX9_birds 116 = .ok (.ixor, 1) := by decide +kernel
theorem dX9_birds_117 : decode cX9_birds 117 = .ok (.iand, 1) := by decide +kernel
theorem dX9_birds_118 : decode cX9_birds 118 = .ok (.invokevirtual 234, 3) := by decide +kernel
theorem dX9_birds_121 : decode cX9_birds 121 = .ok (.iload_n 3, 1) := by decide +kernel
theorem dX9_birds_122 : decode cX9_birds 122 = .ok (.ireturn, 1) := by decide +kernel
theorem dX3_areStandings_0 : decode cX3_areStandings 0 = .ok (.iload_n 1, 1) := by decide +kernel
theorem dX3_areStandings_1 : decode cX3_areStandings 1 = .ok (.aload_n 0, 1) := by decide +kernel
theorem dX3_areStandings_2 : decode cX3_areStandings 2 = .ok (.invokevirtual 40, 3) := by decide +kernel
theorem dX3_areStandings_5 : decode cX3_areStandings 5 = .ok (.iconst (-1), 1) := by decide +kernel
theorem dX3_areStandings_6 : decode cX3_areStandings 6 = .ok (.ixor, 1) := by decide +kernel
theorem dX3_areStandings_7 : decode cX3_areStandings 7 = .ok (.iand, 1) := by decide +kernel
theorem dX3_areStandings_8 : decode cX3_areStandings 8 = .ok (.ifCond .ne 7, 3) := by decide +kernel
theorem dX3_areStandings_11 : decode cX3_areStandings 11 = .ok (.iconst 1, 1) := by decide +kernel
theorem dX3_areStandings_12 : decode cX3_areStandings 12 = .ok (.goto 4, 3) := by decide +kernel
theorem dX3_areStandings_15 : decode cX3_areStandings 15 = .ok (.iconst 0, 1) := by decide +kernel
theorem dX3_areStandings_16 : decode cX3_areStandings 16 = .ok (.ireturn, 1) := by decide +kernel
theorem dX9_next_0 : decode cX9_next 0 = .ok (.aload_n 0, 1) := by decide +kernel
theorem dX9_next_1 : decode cX9_next 1 = .ok (.getfield 34, 3) := by decide +kernel
theorem dX9_next_4 : decode cX9_next 4 = .ok (.iload_n 1, 1) := by decide +kernel
theorem dX9_next_5 : decode cX9_next 5 = .ok (.invokevirtual 301, 3) := by decide +kernel
theorem dX9_next_8 : decode cX9_next 8 = .ok (.ifCond .ne 5, 3) := by decide +kernel
theorem dX9_next_11 : decode cX9_next 11 = .ok (.iconst (-1), 1) := by decide +kernel
theorem dX9_next_12 : decode cX9_next 12 = .ok (.ireturn, 1) := by decide +kernel
theorem dX9_next_13 : decode cX9_next 13 = .ok (.aload_n 0, 1) := by decide +kernel
theorem dX9_next_14 : decode cX9_next 14 = .ok (.getfield 19, 3) := by decide +kernel
theorem dX9_next_17 : decode cX9_next 17 = .ok (.invokevirtual 265, 3) := by decide +kernel
theorem dX9_next_20 : decode cX9_next 20 = .ok (.bipush (-2), 2) := by decide +kernel
theorem dX9_next_22 : decode cX9_next 22 = .ok (.istore_n 2, 1) := by decide +kernel
theorem dX9_next_23 : decode cX9_next 23 = .ok (.iconst 0, 1) := by decide +kernel
theorem dX9_next_24 : decode cX9_next 24 = .ok (.istore_n 3, 1) := by decide +kernel
theorem dX9_next_25 : decode cX9_next 25 = .ok (.iconst 0, 1) := by decide +kernel
theorem dX9_next_26 : decode cX9_next 26 = .ok (.istore 4, 2) := by decide +kernel
theorem dX9_next_28 : decode cX9_next 28 = .ok (.iload 4, 2) := by decide +kernel
theorem dX9_next_30 : decode cX9_next 30 = .ok (.aload_n 0, 1) := by decide +kernel
theorem dX9_next_31 : decode cX9_next 31 = .ok (.getfield 34, 3) := by decide +kernel
theorem dX9_next_34 : decode cX9_next 34 = .ok (.getfield 250, 3) := by decide +kernel
theorem dX9_next_37 : decode cX9_next 37 = .ok (.if_icmp .ge 49, 3) := by decide +kernel
theorem dX9_next_40 : decode cX9_next 40 = .ok (.iload_n 1, 1) := by decide +kernel
theorem dX9_next_41 : decode cX9_next 41 = .ok (.iload 4, 2) := by decide +kernel
theorem dX9_next_43 : decode cX9_next 43 = .ok (.ishr, 1) := by decide +kernel
theorem dX9_next_44 : decode cX9_next 44 = .ok (.iconst 1, 1) := by decide +kernel
theorem dX9_next_45 : decode cX9_next 45 = .ok (.iand, 1) := by decide +kernel
theorem dX9_next_46 : decode cX9_next 46 = .ok (.ifCond .ne 34, 3) := by decide +kernel
theorem dX9_next_49 : decode cX9_next 49 = .ok (.aload_n 0, 1) := by decide +kernel
theorem dX9_next_50 : decode cX9_next 50 = .ok (.getfield 19, 3) := by decide +kernel
theorem dX9_next_53 : decode cX9_next 53 = .ok (.iload_n 1, 1) := by decide +kernel
theorem dX9_next_54 : decode cX9_next 54 = .ok (.iconst 1, 1) := by decide +kernel
theorem dX9_next_55 : decode cX9_next 55 = .ok (.iload 4, 2) := by decide +kernel
theorem dX9_next_57 : decode cX9_next 57 = .ok (.ishl, 1) := by decide +kernel
theorem dX9_next_58 : decode cX9_next 58 = .ok (.ior, 1) := by decide +kernel
theorem dX9_next_59 : decode cX9_next 59 = .ok (.invokevirtual 289, 3) := by decide +kernel
theorem dX9_next_62 : decode cX9_next 62 = .ok (.istore 5, 2) := by decide +kernel
theorem dX9_next_64 : decode cX9_next 64 = .ok (.iload_n 2, 1) := by decide +kernel
theorem dX9_next_65 : decode cX9_next 65 = .ok (.ifCond .lt 9, 3) := by decide +kernel
theorem dX9_next_68 : decode cX9_next 68 = .ok (.iload 5, 2) := by decide +kernel
theorem dX9_next_70 : decode cX9_next 70 = .ok (.iload_n 3, 1) := by decide +kernel
theorem dX9_next_71 : decode cX9_next 71 = .ok (.if_icmp .ge 9, 3) := by decide +kernel
theorem dX9_next_74 : decode cX9_next 74 = .ok (.iload 4, 2) := by decide +kernel
theorem dX9_next_76 : decode cX9_next 76 = .ok (.istore_n 2, 1) := by decide +kernel
theorem dX9_next_77 : decode cX9_next 77 = .ok (.iload 5, 2) := by decide +kernel
theorem dX9_next_79 : decode cX9_next 79 = .ok (.istore_n 3, 1) := by decide +kernel
theorem dX9_next_80 : decode cX9_next 80 = .ok (.iinc 4 1, 3) := by decide +kernel
theorem dX9_next_83 : decode cX9_next 83 = .ok (.goto (-55), 3) := by decide +kernel
theorem dX9_next_86 : decode cX9_next 86 = .ok (.iload_n 2, 1) := by decide +kernel
theorem dX9_next_87 : decode cX9_next 87 = .ok (.ifCond .lt 16, 3) := by decide +kernel
theorem dX9_next_90 : decode cX9_next 90 = .ok (.aload_n 0, 1) := by decide +kernel
theorem dX9_next_91 : decode cX9_next 91 = .ok (.iload_n 3, 1) := by decide +kernel
theorem dX9_next_92 : decode cX9_next 92 = .ok (.aload_n 0, 1) := by decide +kernel
theorem dX9_next_93 : decode cX9_next 93 = .ok (.getfield 19, 3) := by decide +kernel
theorem dX9_next_96 : decode cX9_next 96 = .ok (.iload_n 1, 1) := by decide +kernel
theorem dX9_next_97 : decode cX9_next 97 = .ok (.invokevirtual 289, 3) := by decide +kernel
theorem dX9_next_100 : decode cX9_next 100 = .ok (.invokevirtual 234, 3) := by decide +kernel
theorem dX9_next_103 : decode cX9_next 103 = .ok (.iload_n 2, 1) := by decide +kernel
theorem dX9_next_104 : decode cX9_next 104 = .ok (.ireturn, 1) := by decide +kernel
theorem dX0_withoutLadder_0 : decode cX0_withoutLadder 0 = .ok (.aload_n 0, 1) := by decide +kernel
theorem dX0_withoutLadder_1 : decode cX0_withoutLadder 1 = .ok (.getfield 21, 3) := by decide +kernel
theorem dX0_withoutLadder_4 : decode cX0_withoutLadder 4 = .ok (.getfield 53, 3) := by decide +kernel
theorem dX0_withoutLadder_7 : decode cX0_withoutLadder 7 = .ok (.iconst (-1), 1) := by decide +kernel
theorem dX0_withoutLadder_8 : decode cX0_withoutLadder 8 = .ok (.if_icmp .ne 7, 3) := by decide +kernel
theorem dX0_withoutLadder_11 : decode cX0_withoutLadder 11 = .ok (.iload_n 1, 1) := by decide +kernel
theorem dX0_withoutLadder_12 : decode cX0_withoutLadder 12 = .ok (.goto 16, 3) := by decide +kernel
theorem dX0_withoutLadder_15 : decode cX0_withoutLadder 15 = .ok (.iload_n 1, 1) := by decide +kernel
theorem dX0_withoutLadder_16 : decode cX0_withoutLadder 16 = .ok (.iconst 1, 1) := by decide +kernel
theorem dX0_withoutLadder_17 : decode cX0_withoutLadder 17 = .ok (.aload_n 0, 1) := by decide +kernel
theorem dX0_withoutLadder_18 : decode cX0_withoutLadder 18 = .ok (.getfield 21, 3) := by decide +kernel
theorem dX0_withoutLadder_21 : decode cX0_withoutLadder 21 = .ok (.getfield 53, 3) := by decide +kernel
theorem dX0_withoutLadder_24 : decode cX0_withoutLadder 24 = .ok (.ishl, 1) := by decide +kernel
theorem dX0_withoutLadder_25 : decode cX0_withoutLadder 25 = .ok (.iconst (-1), 1) := by decide +kernel
theorem dX0_withoutLadder_26 : decode cX0_withoutLadder 26 = .ok (.ixor, 1) := by decide +kernel
theorem dX0_withoutLadder_27 : decode cX0_withoutLadder 27 = .ok (.iand, 1) := by decide +kernel
theorem dX0_withoutLadder_28 : decode cX0_withoutLadder 28 = .ok (.ireturn, 1) := by decide +kernel
theorem dX3_waySeconds_0 : decode cX3_waySeconds 0 = .ok (.iload_n 2, 1) := by decide +kernel
theorem dX3_waySeconds_1 : decode cX3_waySeconds 1 = .ok (.invokestatic 108, 3) := by decide +kernel
theorem dX3_waySeconds_4 : decode cX3_waySeconds 4 = .ok (.istore_n 3, 1) := by decide +kernel
theorem dX3_waySeconds_5 : decode cX3_waySeconds 5 = .ok (.iload_n 3, 1) := by decide +kernel
theorem dX3_waySeconds_6 : decode cX3_waySeconds 6 = .ok (.ifCond .ne 5, 3) := by decide +kernel
theorem dX3_waySeconds_9 : decode cX3_waySeconds 9 = .ok (.iconst 0, 1) := by decide +kernel
theorem dX3_waySeconds_10 : decode cX3_waySeconds 10 = .ok (.ireturn, 1) := by decide +kernel
theorem dX3_waySeconds_11 : decode cX3_waySeconds 11 = .ok (.bipush 99, 2) := by decide +kernel
theorem dX3_waySeconds_13 : decode cX3_waySeconds 13 = .ok (.istore 4, 2) := by decide +kernel
theorem dX3_waySeconds_15 : decode cX3_waySeconds 15 = .ok (.iconst 0, 1) := by decide +kernel
theorem dX3_waySeconds_16 : decode cX3_waySeconds 16 = .ok (.istore 5, 2) := by decide +kernel
theorem dX3_waySeconds_18 : decode cX3_waySeconds 18 = .ok (.iconst 0, 1) := by decide +kernel
theorem dX3_waySeconds_19 : decode cX3_waySeconds 19 = .ok (.istore 6, 2) := by decide +kernel
theorem dX3_waySeconds_21 : decode cX3_waySeconds 21 = .ok (.iload 6, 2) := by decide +kernel
theorem dX3_waySeconds_23 : decode cX3_waySeconds 23 = .ok (.aload_n 0, 1) := by decide +kernel
theorem dX3_waySeconds_24 : decode cX3_waySeconds 24 = .ok (.getfield 37, 3) := by decide +kernel
theorem dX3_waySeconds_27 : decode cX3_waySeconds 27 = .ok (.if_icmp .ge 46, 3) := by decide +kernel
theorem dX3_waySeconds_30 : decode cX3_waySeconds 30 = .ok (.iload_n 2, 1) := by decide +kernel
theorem dX3_waySeconds_31 : decode cX3_waySeconds 31 = .ok (.iload 6, 2) := by decide +kernel
theorem dX3_waySeconds_33 : decode cX3_waySeconds 33 = .ok (.ishr, 1) := by decide +kernel
theorem dX3_waySeconds_34 : decode cX3_waySeconds 34 = .ok (.iconst 1, 1) := by decide +kernel
theorem dX3_waySeconds_35 : decode cX3_waySeconds 35 = .ok (.iand, 1) := by decide +kernel
theorem dX3_waySeconds_36 : decode cX3_waySeconds 36 = .ok (.ifCond .eq 31, 3) := by decide +kernel
theorem dX3_waySeconds_39 : decode cX3_waySeconds 39 = .ok (.iload 4, 2) := by decide +kernel
theorem dX3_waySeconds_41 : decode cX3_waySeconds 41 = .ok (.aload_n 0, 1) := by decide +kernel
theorem dX3_waySeconds_42 : decode cX3_waySeconds 42 = .ok (.getfield 24, 3) := by decide +kernel
theorem dX3_waySeconds_45 : decode cX3_waySeconds 45 = .ok (.iload 6, 2) := by decide +kernel
theorem dX3_waySeconds_47 : decode cX3_waySeconds 47 = .ok (.iaload, 1) := by decide +kernel
theorem dX3_waySeconds_48 : decode cX3_waySeconds 48 = .ok (.invokestatic 80, 3) := by decide +kernel
theorem dX3_waySeconds_51 : decode cX3_waySeconds 51 = .ok (.istore 4, 2) := by decide +kernel
theorem dX3_waySeconds_53 : decode cX3_waySeconds 53 = .ok (.iload 5, 2) := by decide +kernel
theorem dX3_waySeconds_55 : decode cX3_waySeconds 55 = .ok (.aload_n 0, 1) := by decide +kernel
theorem dX3_waySeconds_56 : decode cX3_waySeconds 56 = .ok (.getfield 24, 3) := by decide +kernel
theorem dX3_waySeconds_59 : decode cX3_waySeconds 59 = .ok (.iload 6, 2) := by decide +kernel
theorem dX3_waySeconds_61 : decode cX3_waySeconds 61 = .ok (.iaload, 1) := by decide +kernel
theorem dX3_waySeconds_62 : decode cX3_waySeconds 62 = .ok (.invokestatic 86, 3) := by decide +kernel
theorem dX3_waySeconds_65 : decode cX3_waySeconds 65 = .ok (.istore 5, 2) := by decide +kernel
theorem dX3_waySeconds_67 : decode cX3_waySeconds 67 = .ok (.iinc 6 1, 3) := by decide +kernel
theorem dX3_waySeconds_70 : decode cX3_waySeconds 70 = .ok (.goto (-49), 3) := by decide +kernel
theorem dX3_waySeconds_73 : decode cX3_waySeconds 73 = .ok (.iload 5, 2) := by decide +kernel
theorem dX3_waySeconds_75 : decode cX3_waySeconds 75 = .ok (.iload 4, 2) := by decide +kernel
theorem dX3_waySeconds_77 : decode cX3_waySeconds 77 = .ok (.isub, 1) := by decide +kernel
theorem dX3_waySeconds_78 : decode cX3_waySeconds 78 = .ok (.istore 6, 2) := by decide +kernel
theorem dX3_waySeconds_80 : decode cX3_waySeconds 80 = .ok (.iload_n 1, 1) := by decide +kernel
theorem dX3_waySeconds_81 : decode cX3_waySeconds 81 = .ok (.iconst (-1), 1) := by decide +kernel
theorem dX3_waySeconds_82 : decode cX3_waySeconds 82 = .ok (.if_icmp .eq 35, 3) := by decide +kernel
theorem dX3_waySeconds_85 : decode cX3_waySeconds 85 = .ok (.iload 6, 2) := by decide +kernel
theorem dX3_waySeconds_87 : decode cX3_waySeconds 87 = .ok (.aload_n 0, 1) := by decide +kernel
theorem dX3_waySeconds_88 : decode cX3_waySeconds 88 = .ok (.getfield 24, 3) := by decide +kernel
theorem dX3_waySeconds_91 : decode cX3_waySeconds 91 = .ok (.iload_n 1, 1) := by decide +kernel
theorem dX3_waySeconds_92 : decode cX3_waySeconds 92 = .ok (.iaload, 1) := by decide +kernel
theorem dX3_waySeconds_93 : decode cX3_waySeconds 93 = .ok (.iload 4, 2) := by decide +kernel
theorem dX3_waySeconds_95 : decode cX3_waySeconds 95 = .ok (.isub, 1) := by decide +kernel
theorem dX3_waySeconds_96 : decode cX3_waySeconds 96 = .ok (.invokestatic 89, 3) := by decide +kernel
theorem dX3_waySeconds_99 : decode cX3_waySeconds 99 = .ok (.aload_n 0, 1) := by decide +kernel
theorem dX3_waySeconds_100 : decode cX3_waySeconds 100 = .ok (.getfield 24, 3) := by decide +kernel
theorem dX3_waySeconds_103 : decode cX3_waySeconds 103 = .ok (.iload_n 1, 1) := by decide +kernel
theorem dX3_waySeconds_104 : decode cX3_waySeconds 104 = .ok (.iaload, 1) := by decide +kernel
theorem dX3_waySeconds_105 : decode cX3_waySeconds 105 = .ok (.iload 5, 2) := by decide +kernel
theorem dX3_waySeconds_107 : decode cX3_waySeconds 107 = .ok (.isub, 1) := by decide +kernel
theorem dX3_waySeconds_108 : decode cX3_waySeconds 108 = .ok (.invokestatic 89, 3) := by decide +kernel
theorem dX3_waySeconds_111 : decode cX3_waySeconds 111 = .ok (.invokestatic 80, 3) := by decide +kernel
theorem dX3_waySeconds_114 : decode cX3_waySeconds 114 = .ok (.iadd, 1) := by decide +kernel
theorem dX3_waySeconds_115 : decode cX3_waySeconds 115 = .ok (.istore 6, 2) := by decide +kernel
theorem dX3_waySeconds_117 : decode cX3_waySeconds 117 = .ok (.bipush 9, 2) := by decide +kernel
theorem dX3_waySeconds_119 : decode cX3_waySeconds 119 = .ok (.iload_n 3, 1) := by decide +kernel
theorem dX3_waySeconds_120 : decode cX3_waySeconds 120 = .ok (.imul, 1) := by decide +kernel
theorem dX3_waySeconds_121 : decode cX3_waySeconds 121 = .ok (.aload_n 0, 1) := by decide +kernel
theorem dX3_waySeconds_122 : decode cX3_waySeconds 122 = .ok (.getfield 30, 3) := by decide +kernel
theorem dX3_waySeconds_125 : decode cX3_waySeconds 125 = .ok (.iconst 3, 1) := by decide +kernel
theorem dX3_waySeconds_126 : decode cX3_waySeconds 126 = .ok (.iaload, 1) := by decide +kernel
theorem dX3_waySeconds_127 : decode cX3_waySeconds 127 = .ok (.iload 6, 2) := by decide +kernel
theorem dX3_waySeconds_129 : decode cX3_waySeconds 129 = .ok (.imul, 1) := by decide +kernel
theorem dX3_waySeconds_130 : decode cX3_waySeconds 130 = .ok (.iadd, 1) := by decide +kernel
theorem dX3_waySeconds_131 : decode cX3_waySeconds 131 = .ok (.ireturn, 1) := by decide +kernel
theorem dX3_firstOfWay_0 : decode cX3_firstOfWay 0 = .ok (.iconst 0, 1) := by decide +kernel
theorem dX3_firstOfWay_1 : decode cX3_firstOfWay 1 = .ok (.istore 4, 2) := by decide +kernel
theorem dX3_firstOfWay_3 : decode cX3_firstOfWay 3 = .ok (.iload 4, 2) := by decide +kernel
theorem dX3_firstOfWay_5 : decode cX3_firstOfWay 5 = .ok (.aload_n 0, 1) := by decide +kernel
theorem dX3_firstOfWay_6 : decode cX3_firstOfWay 6 = .ok (.getfield 37, 3) := by decide +kernel
theorem dX3_firstOfWay_9 : decode cX3_firstOfWay 9 = .ok (.if_icmp .ge 47, 3) := by decide +kernel
theorem dX3_firstOfWay_12 : decode cX3_firstOfWay 12 = .ok (.iload_n 2, 1) := by decide +kernel
theorem dX3_firstOfWay_13 : decode cX3_firstOfWay 13 = .ok (.iload 4, 2) := by decide +kernel
theorem dX3_firstOfWay_15 : decode cX3_firstOfWay 15 = .ok (.ishr, 1) := by decide +kernel
theorem dX3_firstOfWay_16 : decode cX3_firstOfWay 16 = .ok (.iconst 1, 1) := by decide +kernel
theorem dX3_firstOfWay_17 : decode cX3_firstOfWay 17 = .ok (.iand, 1) := by decide +kernel
theorem dX3_firstOfWay_18 : decode cX3_firstOfWay 18 = .ok (.ifCond .eq 32, 3) := by decide +kernel
theorem dX3_firstOfWay_21 : decode cX3_firstOfWay 21 = .ok (.aload_n 0, 1) := by decide +kernel
theorem dX3_firstOfWay_22 : decode cX3_firstOfWay 22 = .ok (.iload_n 1, 1) := by decide +kernel
theorem dX3_firstOfWay_23 : decode cX3_firstOfWay 23 = .ok (.iload 4, 2) := by decide +kernel
theorem dX3_firstOfWay_25 : decode cX3_firstOfWay 25 = .ok (.invokevirtual 113, 3) := by decide +kernel
theorem dX3_firstOfWay_28 : decode cX3_firstOfWay 28 = .ok (.aload_n 0, 1) := by decide +kernel
theorem dX3_firstOfWay_29 : decode cX3_firstOfWay 29 = .ok (.iload 4, 2) := by decide +kernel
theorem dX3_firstOfWay_31 : decode cX3_firstOfWay 31 = .ok (.iload_n 2, 1) := by decide +kernel
theorem dX3_firstOfWay_32 : decode cX3_firstOfWay 32 = .ok (.iconst 1, 1) := by decide +kernel
theorem dX3_firstOfWay_33 : decode cX3_firstOfWay 33 = .ok (.iload 4, 2) := by decide +kernel
theorem dX3_firstOfWay_35 : decode cX3_firstOfWay 35 = .ok (.ishl, 1) := by decide +kernel
theorem dX3_firstOfWay_36 : decode cX3_firstOfWay 36 = .ok (.iconst (-1), 1) := by decide +kernel
theorem dX3_firstOfWay_37 : decode cX3_firstOfWay 37 = .ok (.ixor, 1) := by decide +kernel
theorem dX3_firstOfWay_38 : decode cX3_firstOfWay 38 = .ok (.iand, 1) := by decide +kernel
theorem dX3_firstOfWay_39 : decode cX3_firstOfWay 39 = .ok (.invokevirtual 116, 3) := by decide +kernel
theorem dX3_firstOfWay_42 : decode cX3_firstOfWay 42 = .ok (.iadd, 1) := by decide +kernel
theorem dX3_firstOfWay_43 : decode cX3_firstOfWay 43 = .ok (.iload_n 3, 1) := by decide +kernel
theorem dX3_firstOfWay_44 : decode cX3_firstOfWay 44 = .ok (.if_icmp .ne 6, 3) := by decide +kernel
theorem dX3_firstOfWay_47 : decode cX3_firstOfWay 47 = .ok (.iload 4, 2) := by decide +kernel
theorem dX3_firstOfWay_49 : decode cX3_firstOfWay 49 = .ok (.ireturn, 1) := by decide +kernel
theorem dX3_firstOfWay_50 : decode cX3_firstOfWay 50 = .ok (.iinc 4 1, 3) := by decide +kernel
theorem dX3_firstOfWay_53 : decode cX3_firstOfWay 53 = .ok (.goto (-50), 3) := by decide +kernel
theorem dX3_firstOfWay_56 : decode cX3_firstOfWay 56 = .ok (.iconst (-1), 1) := by decide +kernel
theorem dX3_firstOfWay_57 : decode cX3_firstOfWay 57 = .ok (.ireturn, 1) := by decide +kernel
theorem dX9_route_0 : decode cX9_route 0 = .ok (.aload_n 0, 1) := by decide +kernel
theorem dX9_route_1 : decode cX9_route 1 = .ok (.getfield 34, 3) := by decide +kernel
theorem dX9_route_4 : decode cX9_route 4 = .ok (.iload_n 1, 1) := by decide +kernel
theorem dX9_route_5 : decode cX9_route 5 = .ok (.invokevirtual 301, 3) := by decide +kernel
theorem dX9_route_8 : decode cX9_route 8 = .ok (.ifCond .ne 5, 3) := by decide +kernel
theorem dX9_route_11 : decode cX9_route 11 = .ok (.iconst (-1), 1) := by decide +kernel
theorem dX9_route_12 : decode cX9_route 12 = .ok (.ireturn, 1) := by decide +kernel
theorem dX9_route_13 : decode cX9_route 13 = .ok (.aload_n 0, 1) := by decide +kernel
theorem dX9_route_14 : decode cX9_route 14 = .ok (.getfield 50, 3) := by decide +kernel
theorem dX9_route_17 : decode cX9_route 17 = .ok (.invokevirtual 304, 3) := by decide +kernel
theorem dX9_route_20 : decode cX9_route 20 = .ok (.aload_n 0, 1) := by decide +kernel
theorem dX9_route_21 : decode cX9_route 21 = .ok (.getfield 27, 3) := by decide +kernel
theorem dX9_route_24 : decode cX9_route 24 = .ok (.iload_n 1, 1) := by decide +kernel
theorem dX9_route_25 : decode cX9_route 25 = .ok (.invokevirtual 305, 3) := by decide +kernel
theorem dX9_route_28 : decode cX9_route 28 = .ok (.istore_n 2, 1) := by decide +kernel
theorem dX9_route_29 : decode cX9_route 29 = .ok (.aload_n 0, 1) := by decide +kernel
theorem dX9_route_30 : decode cX9_route 30 = .ok (.getfield 39, 3) := by decide +kernel
theorem dX9_route_33 : decode cX9_route 33 = .ok (.getfield 308, 3) := by decide +kernel
theorem dX9_route_36 : decode cX9_route 36 = .ok (.istore_n 3, 1) := by decide +kernel
theorem dX9_route_37 : decode cX9_route 37 = .ok (.aload_n 0, 1) := by decide +kernel
theorem dX9_route_38 : decode cX9_route 38 = .ok (.getfield 34, 3) := by decide +kernel
theorem dX9_route_41 : decode cX9_route 41 = .ok (.iload_n 3, 1) := by decide +kernel
theorem dX9_route_42 : decode cX9_route 42 = .ok (.iload_n 2, 1) := by decide +kernel
theorem dX9_route_43 : decode cX9_route 43 = .ok (.invokevirtual 311, 3) := by decide +kernel
theorem dX9_route_46 : decode cX9_route 46 = .ok (.istore 4, 2) := by decide +kernel
theorem dX9_route_48 : decode cX9_route 48 = .ok (.iload 4, 2) := by decide +kernel
theorem dX9_route_50 : decode cX9_route 50 = .ok (.istore 5, 2) := by decide +kernel
theorem dX9_route_52 : decode cX9_route 52 = .ok (.iconst 0, 1) := by decide +kernel
theorem dX9_route_53 : decode cX9_route 53 = .ok (.istore 6, 2) := by decide +kernel
theorem dX9_route_55 : decode cX9_route 55 = .ok (.iload 6, 2) := by decide +kernel
theorem dX9_route_57 : decode cX9_route 57 = .ok (.bipush 8, 2) := by decide +kernel
theorem dX9_route_59 : decode cX9_route 59 = .ok (.if_icmp .ge 71, 3) := by decide +kernel
theorem dX9_route_62 : decode cX9_route 62 = .ok (.iload_n 2, 1) := by decide +kernel
theorem dX9_route_63 : decode cX9_route 63 = .ok (.ifCond .eq 67, 3) := by decide +kernel
theorem dX9_route_66 : decode cX9_route 66 = .ok (.aload_n 0, 1) := by decide +kernel
theorem dX9_route_67 : decode cX9_route 67 = .ok (.getfield 34, 3) := by decide +kernel
theorem dX9_route_70 : decode cX9_route 70 = .ok (.iload_n 3, 1) := by decide +kernel
theorem dX9_route_71 : decode cX9_route 71 = .ok (.iload_n 2, 1) := by decide +kernel
theorem dX9_route_72 : decode cX9_route 72 = .ok (.iload 5, 2) := by decide +kernel
theorem dX9_route_74 : decode cX9_route 74 = .ok (.invokevirtual 314, 3) := by decide +kernel
theorem dX9_route_77 : decode cX9_route 77 = .ok (.istore 7, 2) := by decide +kernel
theorem dX9_route_79 : decode cX9_route 79 = .ok (.iload 7, 2) := by decide +kernel
theorem dX9_route_81 : decode cX9_route 81 = .ok (.iconst (-1), 1) := by decide +kernel
theorem dX9_route_82 : decode cX9_route 82 = .ok (.if_icmp .ne 6, 3) := by decide +kernel
theorem dX9_route_85 : decode cX9_route 85 = .ok (.goto 45, 3) := by decide +kernel
theorem dX9_route_88 : decode cX9_route 88 = .ok (.aload_n 0, 1) := by decide +kernel
theorem dX9_route_89 : decode cX9_route 89 = .ok (.getfield 50, 3) := by decide +kernel
theorem dX9_route_92 : decode cX9_route 92 = .ok (.iload 7, 2) := by decide +kernel
theorem dX9_route_94 : decode cX9_route 94 = .ok (.invokevirtual 318, 3) := by decide +kernel
theorem dX9_route_97 : decode cX9_route 97 = .ok (.iload 5, 2) := by decide +kernel
theorem dX9_route_99 : decode cX9_route 99 = .ok (.aload_n 0, 1) := by decide +kernel
theorem dX9_route_100 : decode cX9_route 100 = .ok (.getfield 34, 3) := by decide +kernel
theorem dX9_route_103 : decode cX9_route 103 = .ok (.iload_n 3, 1) := by decide +kernel
theorem dX9_route_104 : decode cX9_route 104 = .ok (.iload 7, 2) := by decide +kernel
theorem dX9_route_106 : decode cX9_route 106 = .ok (.invokevirtual 320, 3) := by decide +kernel
theorem dX9_route_109 : decode cX9_route 109 = .ok (.isub, 1) := by decide +kernel
theorem dX9_route_110 : decode cX9_route 110 = .ok (.istore 5, 2) := by decide +kernel
theorem dX9_route_112 : decode cX9_route 112 = .ok (.iload_n 2, 1) := by decide +kernel
theorem dX9_route_113 : decode cX9_route 113 = .ok (.iconst 1, 1) := by decide +kernel
theorem dX9_route_114 : decode cX9_route 114 = .ok (.iload 7, 2) := by decide +kernel
theorem dX9_route_116 : decode cX9_route 116 = .ok (.ishl, 1) := by decide +kernel
theorem dX9_route_117 : decode cX9_route 117 = .ok (.iconst (-1), 1) := by decide +kernel
theorem dX9_route_118 : decode cX9_route 118 = .ok (.ixor, 1) := by decide +kernel
theorem dX9_route_119 : decode cX9_route 119 = .ok (.iand, 1) := by decide +kernel
theorem dX9_route_120 : decode cX9_route 120 = .ok (.istore_n 2, 1) := by decide +kernel
theorem dX9_route_121 : decode cX9_route 121 = .ok (.iload 7, 2) := by decide +kernel
theorem dX9_route_123 : decode cX9_route 123 = .ok (.istore_n 3, 1) := by decide +kernel
theorem dX9_route_124 : decode cX9_route 124 = .ok (.iinc 6 1, 3) := by decide +kernel
theorem dX9_route_127 : decode cX9_route 127 = .ok (.goto (-72), 3) := by decide +kernel
theorem dX9_route_130 : decode cX9_route 130 = .ok (.iload 4, 2) := by decide +kernel
theorem dX9_route_132 : decode cX9_route 132 = .ok (.ireturn, 1) := by decide +kernel
theorem dX5_timeAll_0 : decode cX5_timeAll 0 = .ok (.iconst 0, 1) := by decide +kernel
theorem dX5_timeAll_1 : decode cX5_timeAll 1 = .ok (.istore_n 1, 1) := by decide +kernel
theorem dX5_timeAll_2 : decode cX5_timeAll 2 = .ok (.iload_n 1, 1) := by decide +kernel
theorem dX5_timeAll_3 : decode cX5_timeAll 3 = .ok (.aload_n 0, 1) := by decide +kernel
theorem dX5_timeAll_4 : decode cX5_timeAll 4 = .ok (.getfield 24, 3) := by decide +kernel
theorem dX5_timeAll_7 : decode cX5_timeAll 7 = .ok (.getfield 97, 3) := by decide +kernel
theorem dX5_timeAll_10 : decode cX5_timeAll 10 = .ok (.if_icmp .ge 62, 3) := by decide +kernel
theorem dX5_timeAll_13 : decode cX5_timeAll 13 = .ok (.iconst 0, 1) := by decide +kernel
theorem dX5_timeAll_14 : decode cX5_timeAll 14 = .ok (.istore_n 2, 1) := by decide +kernel
theorem dX5_timeAll_15 : decode cX5_timeAll 15 = .ok (.iload_n 2, 1) := by decide +kernel
theorem dX5_timeAll_16 : decode cX5_timeAll 16 = .ok (.aload_n 0, 1) := by decide +kernel
theorem dX5_timeAll_17 : decode cX5_timeAll 17 = .ok (.getfield 24, 3) := by decide +kernel
theorem dX5_timeAll_20 : decode cX5_timeAll 20 = .ok (.getfield 64, 3) := by decide +kernel
theorem dX5_timeAll_23 : decode cX5_timeAll 23 = .ok (.if_icmp .ge 43, 3) := by decide +kernel
theorem dX5_timeAll_26 : decode cX5_timeAll 26 = .ok (.aload_n 0, 1) := by decide +kernel
theorem dX5_timeAll_27 : decode cX5_timeAll 27 = .ok (.iload_n 2, 1) := by decide +kernel
theorem dX5_timeAll_28 : decode cX5_timeAll 28 = .ok (.invokevirtual 100, 3) := by decide +kernel
theorem dX5_timeAll_31 : decode cX5_timeAll 31 = .ok (.iload_n 1, 1) := by decide +kernel
theorem dX5_timeAll_32 : decode cX5_timeAll 32 = .ok (.ishr, 1) := by decide +kernel
theorem dX5_timeAll_33 : decode cX5_timeAll 33 = .ok (.iconst 1, 1) := by decide +kernel
theorem dX5_timeAll_34 : decode cX5_timeAll 34 = .ok (.iand, 1) := by decide +kernel
theorem dX5_timeAll_35 : decode cX5_timeAll 35 = .ok (.ifCond .eq 25, 3) := by decide +kernel
theorem dX5_timeAll_38 : decode cX5_timeAll 38 = .ok (.aload_n 0, 1) := by decide +kernel
theorem dX5_timeAll_39 : decode cX5_timeAll 39 = .ok (.getfield 29, 3) := by decide +kernel
theorem dX5_timeAll_42 : decode cX5_timeAll 42 = .ok (.iload_n 1, 1) := by decide +kernel
theorem dX5_timeAll_43 : decode cX5_timeAll 43 = .ok (.bipush 8, 2) := by decide +kernel
theorem dX5_timeAll_45 : decode cX5_timeAll 45 = .ok (.imul, 1) := by decide +kernel
theorem dX5_timeAll_46 : decode cX5_timeAll 46 = .ok (.iload_n 2, 1) := by decide +kernel
theorem dX5_timeAll_47 : decode cX5_timeAll 47 = .ok (.iadd, 1) := by decide +kernel
theorem dX5_timeAll_48 : decode cX5_timeAll 48 = .ok (.aload_n 0, 1) := by decide +kernel
theorem dX5_timeAll_49 : decode cX5_timeAll 49 = .ok (.getfield 14, 3) := by decide +kernel
theorem dX5_timeAll_52 : decode cX5_timeAll 52 = .ok (.iload_n 1, 1) := by decide +kernel
theorem dX5_timeAll_53 : decode cX5_timeAll 53 = .ok (.iload_n 2, 1) := by decide +kernel
theorem dX5_timeAll_54 : decode cX5_timeAll 54 = .ok (.iconst 0, 1) := by decide +kernel
theorem dX5_timeAll_55 : decode cX5_timeAll 55 = .ok (.iconst 0, 1) := by decide +kernel
theorem dX5_timeAll_56 : decode cX5_timeAll 56 = .ok (.invokevirtual 103, 3) := by decide +kernel
theorem dX5_timeAll_59 : decode cX5_timeAll 59 = .ok (.iastore, 1) := by decide +kernel
theorem dX5_timeAll_60 : decode cX5_timeAll 60 = .ok (.iinc 2 1, 3) := by decide +kernel
theorem dX5_timeAll_63 : decode cX5_timeAll 63 = .ok (.goto (-48), 3) := by decide +kernel
theorem dX5_timeAll_66 : decode cX5_timeAll 66 = .ok (.iinc 1 1, 3) := by decide +kernel
theorem dX5_timeAll_69 : decode cX5_timeAll 69 = .ok (.goto (-67), 3) := by decide +kernel
theorem dX5_timeAll_72 : decode cX5_timeAll 72 = .ok (.return_, 1) := by decide +kernel
theorem dX5_quickest_0 : decode cX5_quickest 0 = .ok (.iconst (-1), 1) := by decide +kernel
theorem dX5_quickest_1 : decode cX5_quickest 1 = .ok (.istore_n 3, 1) := by decide +kernel
theorem dX5_quickest_2 : decode cX5_quickest 2 = .ok (.iconst 0, 1) := by decide +kernel
theorem dX5_quickest_3 : decode cX5_quickest 3 = .ok (.istore 4, 2) := by decide +kernel
theorem dX5_quickest_5 : decode cX5_quickest 5 = .ok (.iconst 0, 1) := by decide +kernel
theorem dX5_quickest_6 : decode cX5_quickest 6 = .ok (.istore 5, 2) := by decide +kernel
theorem dX5_quickest_8 : decode cX5_quickest 8 = .ok (.iload 5, 2) := by decide +kernel
theorem dX5_quickest_10 : decode cX5_quickest 10 = .ok (.aload_n 0, 1) := by decide +kernel
theorem dX5_quickest_11 : decode cX5_quickest 11 = .ok (.getfield 24, 3) := by decide +kernel
theorem dX5_quickest_14 : decode cX5_quickest 14 = .ok (.getfield 64, 3) := by decide +kernel
theorem dX5_quickest_17 : decode cX5_quickest 17 = .ok (.if_icmp .ge 65, 3) := by decide +kernel
theorem dX5_quickest_20 : decode cX5_quickest 20 = .ok (.iload_n 2, 1) := by decide +kernel
theorem dX5_quickest_21 : decode cX5_quickest 21 = .ok (.iload 5, 2) := by decide +kernel
theorem dX5_quickest_23 : decode cX5_quickest 23 = .ok (.ishr, 1) := by decide +kernel
theorem dX5_quickest_24 : decode cX5_quickest 24 = .ok (.iconst 1, 1) := by decide +kernel
theorem dX5_quickest_25 : decode cX5_quickest 25 = .ok (.iand, 1) := by decide +kernel
theorem dX5_quickest_26 : decode cX5_quickest 26 = .ok (.ifCond .eq 50, 3) := by decide +kernel
theorem dX5_quickest_29 : decode cX5_quickest 29 = .ok (.aload_n 0, 1) := by decide +kernel
theorem dX5_quickest_30 : decode cX5_quickest 30 = .ok (.getfield 25, 3) := by decide +kernel
theorem dX5_quickest_33 : decode cX5_quickest 33 = .ok (.iload 5, 2) := by decide +kernel
theorem dX5_quickest_35 : decode cX5_quickest 35 = .ok (.iaload, 1) := by decide +kernel
theorem dX5_quickest_36 : decode cX5_quickest 36 = .ok (.iload_n 1, 1) := by decide +kernel
theorem dX5_quickest_37 : decode cX5_quickest 37 = .ok (.ishr, 1) := by decide +kernel
theorem dX5_quickest_38 : decode cX5_quickest 38 = .ok (.iconst 1, 1) := by decide +kernel
theorem dX5_quickest_39 : decode cX5_quickest 39 = .ok (.iand, 1) := by decide +kernel
theorem dX5_quickest_40 : decode cX5_quickest 40 = .ok (.ifCond .eq 36, 3) := by decide +kernel
theorem dX5_quickest_43 : decode cX5_quickest 43 = .ok (.aload_n 0, 1) := by decide +kernel
theorem dX5_quickest_44 : decode cX5_quickest 44 = .ok (.getfield 29, 3) := by decide +kernel
theorem dX5_quickest_47 : decode cX5_quickest 47 = .ok (.iload_n 1, 1) := by decide +kernel
theorem dX5_quickest_48 : decode cX5_quickest 48 = .ok (.bipush 8, 2) := by decide +kernel
theorem dX5_quickest_50 : decode cX5_quickest 50 = .ok (.imul, 1) := by decide +kernel
theorem dX5_quickest_51 : decode cX5_quickest 51 = .ok (.iload 5, 2) := by decide +kernel
theorem dX5_quickest_53 : decode cX5_quickest 53 = .ok (.iadd, 1) := by decide +kernel
theorem dX5_quickest_54 : decode cX5_quickest 54 = .ok (.iaload, 1) := by decide +kernel
theorem dX5_quickest_55 : decode cX5_quickest 55 = .ok (.istore 6, 2) := by decide +kernel
theorem dX5_quickest_57 : decode cX5_quickest 57 = .ok (.iload_n 3, 1) := by decide +kernel
theorem dX5_quickest_58 : decode cX5_quickest 58 = .ok (.iconst (-1), 1) := by decide +kernel
theorem dX5_quickest_59 : decode cX5_quickest 59 = .ok (.if_icmp .eq 10, 3) := by decide +kernel
theorem dX5_quickest_62 : decode cX5_quickest 62 = .ok (.iload 6, 2) := by decide +kernel
theorem dX5_quickest_64 : decode cX5_quickest 64 = .ok (.iload 4, 2) := by decide +kernel
theorem dX5_quickest_66 : decode cX5_quickest 66 = .ok (.if_icmp .ge 10, 3) := by decide +kernel
theorem dX5_quickest_69 : decode cX5_quickest 69 = .ok (.iload 5, 2) := by decide +kernel
theorem dX5_quickest_71 : decode cX5_quickest 71 = .ok (.istore_n 3, 1) := by decide +kernel
theorem dX5_quickest_72 : decode cX5_quickest 72 = .ok (.iload 6, 2) := by decide +kernel
theorem dX5_quickest_74 : decode cX5_quickest 74 = .ok (.istore 4, 2) := by decide +kernel
theorem dX5_quickest_76 : decode cX5_quickest 76 = .ok (.iinc 5 1, 3) := by decide +kernel
theorem dX5_quickest_79 : decode cX5_quickest 79 = .ok (.goto (-71), 3) := by decide +kernel
theorem dX5_quickest_82 : decode cX5_quickest 82 = .ok (.iload_n 3, 1) := by decide +kernel
theorem dX5_quickest_83 : decode cX5_quickest 83 = .ok (.ireturn, 1) := by decide +kernel
theorem dX3_downsSeconds_0 : decode cX3_downsSeconds 0 = .ok (.iconst 1, 1) := by decide +kernel
theorem dX3_downsSeconds_1 : decode cX3_downsSeconds 1 = .ok (.aload_n 0, 1) := by decide +kernel
theorem dX3_downsSeconds_2 : decode cX3_downsSeconds 2 = .ok (.getfield 30, 3) := by decide +kernel
theorem dX3_downsSeconds_5 : decode cX3_downsSeconds 5 = .ok (.iconst 4, 1) := by decide +kernel
theorem dX3_downsSeconds_6 : decode cX3_downsSeconds 6 = .ok (.iaload, 1) := by decide +kernel
theorem dX3_downsSeconds_7 : decode cX3_downsSeconds 7 = .ok (.invokestatic 86, 3) := by decide +kernel
theorem dX3_downsSeconds_10 : decode cX3_downsSeconds 10 = .ok (.istore_n 3, 1) := by decide +kernel
theorem dX3_downsSeconds_11 : decode cX3_downsSeconds 11 = .ok (.iload_n 2, 1) := by decide +kernel
theorem dX3_downsSeconds_12 : decode cX3_downsSeconds 12 = .ok (.iload_n 3, 1) := by decide +kernel
theorem dX3_downsSeconds_13 : decode cX3_downsSeconds 13 = .ok (.iadd, 1) := by decide +kernel
theorem dX3_downsSeconds_14 : decode cX3_downsSeconds 14 = .ok (.iconst 1, 1) := by decide +kernel
theorem dX3_downsSeconds_15 : decode cX3_downsSeconds 15 = .ok (.isub, 1) := by decide +kernel
theorem dX3_downsSeconds_16 : decode cX3_downsSeconds 16 = .ok (.iload_n 3, 1) := by decide +kernel
theorem dX3_downsSeconds_17 : decode cX3_downsSeconds 17 = .ok (.idiv, 1) := by decide +kernel
theorem dX3_downsSeconds_18 : decode cX3_downsSeconds 18 = .ok (.aload_n 0, 1) := by decide +kernel
theorem dX3_downsSeconds_19 : decode cX3_downsSeconds 19 = .ok (.iload_n 1, 1) := by decide +kernel
theorem dX3_downsSeconds_20 : decode cX3_downsSeconds 20 = .ok (.invokevirtual 105, 3) := by decide +kernel
theorem dX3_downsSeconds_23 : decode cX3_downsSeconds 23 = .ok (.imul, 1) := by decide +kernel
theorem dX3_downsSeconds_24 : decode cX3_downsSeconds 24 = .ok (.ireturn, 1) := by decide +kernel
theorem dX5_workSeconds_0 : decode cX5_workSeconds 0 = .ok (.iconst 0, 1) := by decide +kernel
theorem dX5_workSeconds_1 : decode cX5_workSeconds 1 = .ok (.istore_n 2, 1) := by decide +kernel
theorem dX5_workSeconds_2 : decode cX5_workSeconds 2 = .ok (.iload_n 2, 1) := by decide +kernel
theorem dX5_workSeconds_3 : decode cX5_workSeconds 3 = .ok (.bipush 8, 2) := by decide +kernel
theorem dX5_workSeconds_5 : decode cX5_workSeconds 5 = .ok (.if_icmp .ge 16, 3) := by decide +kernel
theorem dX5_workSeconds_8 : decode cX5_workSeconds 8 = .ok (.aload_n 0, 1) := by decide +kernel
theorem dX5_workSeconds_9 : decode cX5_workSeconds 9 = .ok (.getfield 32, 3) := by decide +kernel
theorem dX5_workSeconds_12 : decode cX5_workSeconds 12 = .ok (.iload_n 2, 1) := by decide +kernel
theorem dX5_workSeconds_13 : decode cX5_workSeconds 13 = .ok (.iconst 0, 1) := by decide +kernel
theorem dX5_workSeconds_14 : decode cX5_workSeconds 14 = .ok (.iastore, 1) := by decide +kernel
theorem dX5_workSeconds_15 : decode cX5_workSeconds 15 = .ok (.iinc 2 1, 3) := by decide +kernel
theorem dX5_workSeconds_18 : decode cX5_workSeconds 18 = .ok (.goto (-16), 3) := by decide +kernel
theorem dX5_workSeconds_21 : decode cX5_workSeconds 21 = .ok (.aload_n 0, 1) := by decide +kernel
theorem dX5_workSeconds_22 : decode cX5_workSeconds 22 = .ok (.iconst 0, 1) := by decide +kernel
theorem dX5_workSeconds_23 : decode cX5_workSeconds 23 = .ok (.putfield 107, 3) := by decide +kernel
theorem dX5_workSeconds_26 : decode cX5_workSeconds 26 = .ok (.iconst 0, 1) := by decide +kernel
theorem dX5_workSeconds_27 : decode cX5_workSeconds 27 = .ok (.istore_n 2, 1) := by decide +kernel
theorem dX5_workSeconds_28 : decode cX5_workSeconds 28 = .ok (.iload_n 2, 1) := by decide +kernel
theorem dX5_workSeconds_29 : decode cX5_workSeconds 29 = .ok (.aload_n 0, 1) := by decide +kernel
theorem dX5_workSeconds_30 : decode cX5_workSeconds 30 = .ok (.getfield 24, 3) := by decide +kernel
theorem dX5_workSeconds_33 : decode cX5_workSeconds 33 = .ok (.getfield 97, 3) := by decide +kernel
theorem dX5_workSeconds_36 : decode cX5_workSeconds 36 = .ok (.if_icmp .ge 66, 3) := by decide +kernel
theorem dX5_workSeconds_39 : decode cX5_workSeconds 39 = .ok (.aload_n 0, 1) := by decide +kernel
theorem dX5_workSeconds_40 : decode cX5_workSeconds 40 = .ok (.getfield 84, 3) := by decide +kernel
theorem dX5_workSeconds_43 : decode cX5_workSeconds 43 = .ok (.iload_n 2, 1) := by decide +kernel
theorem dX5_workSeconds_44 : decode cX5_workSeconds 44 = .ok (.ishr, 1) := by decide +kernel
theorem dX5_workSeconds_45 : decode cX5_workSeconds 45 = .ok (.iconst 1, 1) := by decide +kernel
theorem dX5_workSeconds_46 : decode cX5_workSeconds 46 = .ok (.iand, 1) := by decide +kernel
theorem dX5_workSeconds_47 : decode cX5_workSeconds 47 = .ok (.ifCond .eq 12, 3) := by decide +kernel
theorem dX5_workSeconds_50 : decode cX5_workSeconds 50 = .ok (.aload_n 0, 1) := by decide +kernel
theorem dX5_workSeconds_51 : decode cX5_workSeconds 51 = .ok (.iload_n 2, 1) := by decide +kernel
theorem dX5_workSeconds_52 : decode cX5_workSeconds 52 = .ok (.iload_n 1, 1) := by decide +kernel
