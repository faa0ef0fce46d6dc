theorem dX10_handOf_2 : decode cX10_handOf 2 = .ok (.iconst 0, 1) := by decide +kernel
theorem dX10_handOf_3 : decode cX10_handOf 3 = .ok (.istore_n 3, 1) := by decide +kernel
theorem dX10_handOf_4 : decode cX10_handOf 4 = .ok (.iload_n 3, 1) := by decide +kernel
theorem dX10_handOf_5 : decode cX10_handOf 5 = .ok (.aload_n 0, 1) := by decide +kernel
theorem dX10_handOf_6 : decode cX10_handOf 6 = .ok (.getfield 101, 3) := by decide +kernel
theorem dX10_handOf_9 : decode cX10_handOf 9 = .ok (.if_icmp .ge 30, 3) := by decide +kernel
theorem dX10_handOf_12 : decode cX10_handOf 12 = .ok (.iload_n 2, 1) := by decide +kernel
theorem dX10_handOf_13 : decode cX10_handOf 13 = .ok (.iload_n 1, 1) := by decide +kernel
theorem dX10_handOf_14 : decode cX10_handOf 14 = .ok (.iload_n 3, 1) := by decide +kernel
theorem dX10_handOf_15 : decode cX10_handOf 15 = .ok (.invokestatic 227, 3) := by decide +kernel
theorem dX10_handOf_18 : decode cX10_handOf 18 = .ok (.ifCond .eq 12, 3) := by decide +kernel
theorem dX10_handOf_21 : decode cX10_handOf 21 = .ok (.aload_n 0, 1) := by decide +kernel
theorem dX10_handOf_22 : decode cX10_handOf 22 = .ok (.getfield 59, 3) := by decide +kernel
theorem dX10_handOf_25 : decode cX10_handOf 25 = .ok (.iload_n 3, 1) := by decide +kernel
theorem dX10_handOf_26 : decode cX10_handOf 26 = .ok (.iaload, 1) := by decide +kernel
theorem dX10_handOf_27 : decode cX10_handOf 27 = .ok (.goto 4, 3) := by decide +kernel
theorem dX10_handOf_30 : decode cX10_handOf 30 = .ok (.iconst 0, 1) := by decide +kernel
theorem dX10_handOf_31 : decode cX10_handOf 31 = .ok (.ior, 1) := by decide +kernel
theorem dX10_handOf_32 : decode cX10_handOf 32 = .ok (.istore_n 2, 1) := by decide +kernel
theorem dX10_handOf_33 : decode cX10_handOf 33 = .ok (.iinc 3 1, 3) := by decide +kernel
theorem dX10_handOf_36 : decode cX10_handOf 36 = .ok (.goto (-32), 3) := by decide +kernel
theorem dX10_handOf_39 : decode cX10_handOf 39 = .ok (.iload_n 2, 1) := by decide +kernel
theorem dX10_handOf_40 : decode cX10_handOf 40 = .ok (.ireturn, 1) := by decide +kernel
theorem dX10_layHands__0 : decode cX10_layHands_ 0 = .ok (.iconst 0, 1) := by decide +kernel
theorem dX10_layHands__1 : decode cX10_layHands_ 1 = .ok (.istore_n 2, 1) := by decide +kernel
theorem dX10_layHands__2 : decode cX10_layHands_ 2 = .ok (.iload_n 2, 1) := by decide +kernel
theorem dX10_layHands__3 : decode cX10_layHands_ 3 = .ok (.aload_n 0, 1) := by decide +kernel
theorem dX10_layHands__4 : decode cX10_layHands_ 4 = .ok (.getfield 101, 3) := by decide +kernel
theorem dX10_layHands__7 : decode cX10_layHands_ 7 = .ok (.if_icmp .ge 22, 3) := by decide +kernel
theorem dX10_layHands__10 : decode cX10_layHands_ 10 = .ok (.aload_n 0, 1) := by decide +kernel
theorem dX10_layHands__11 : decode cX10_layHands_ 11 = .ok (.getfield 59, 3) := by decide +kernel
theorem dX10_layHands__14 : decode cX10_layHands_ 14 = .ok (.iload_n 2, 1) := by decide +kernel
theorem dX10_layHands__15 : decode cX10_layHands_ 15 = .ok (.aload_n 0, 1) := by decide +kernel
theorem dX10_layHands__16 : decode cX10_layHands_ 16 = .ok (.iload_n 2, 1) := by decide +kernel
theorem dX10_layHands__17 : decode cX10_layHands_ 17 = .ok (.iload_n 1, 1) := by decide +kernel
theorem dX10_layHands__18 : decode cX10_layHands_ 18 = .ok (.iconst 0, 1) := by decide +kernel
theorem dX10_layHands__19 : decode cX10_layHands_ 19 = .ok (.invokevirtual 220, 3) := by decide +kernel
theorem dX10_layHands__22 : decode cX10_layHands_ 22 = .ok (.iastore, 1) := by decide +kernel
theorem dX10_layHands__23 : decode cX10_layHands_ 23 = .ok (.iinc 2 1, 3) := by decide +kernel
theorem dX10_layHands__26 : decode cX10_layHands_ 26 = .ok (.goto (-24), 3) := by decide +kernel
theorem dX10_layHands__29 : decode cX10_layHands_ 29 = .ok (.aload_n 0, 1) := by decide +kernel
theorem dX10_layHands__30 : decode cX10_layHands_ 30 = .ok (.aload_n 0, 1) := by decide +kernel
theorem dX10_layHands__31 : decode cX10_layHands_ 31 = .ok (.aload_n 0, 1) := by decide +kernel
theorem dX10_layHands__32 : decode cX10_layHands_ 32 = .ok (.getfield 9, 3) := by decide +kernel
theorem dX10_layHands__35 : decode cX10_layHands_ 35 = .ok (.iconst 0, 1) := by decide +kernel
theorem dX10_layHands__36 : decode cX10_layHands_ 36 = .ok (.invokevirtual 244, 3) := by decide +kernel
theorem dX10_layHands__39 : decode cX10_layHands_ 39 = .ok (.aload_n 0, 1) := by decide +kernel
theorem dX10_layHands__40 : decode cX10_layHands_ 40 = .ok (.aload_n 0, 1) := by decide +kernel
theorem dX10_layHands__41 : decode cX10_layHands_ 41 = .ok (.getfield 9, 3) := by decide +kernel
theorem dX10_layHands__44 : decode cX10_layHands_ 44 = .ok (.bipush 19, 2) := by decide +kernel
theorem dX10_layHands__46 : decode cX10_layHands_ 46 = .ok (.iaload, 1) := by decide +kernel
theorem dX10_layHands__47 : decode cX10_layHands_ 47 = .ok (.invokevirtual 301, 3) := by decide +kernel
theorem dX10_layHands__50 : decode cX10_layHands_ 50 = .ok (.iand, 1) := by decide +kernel
theorem dX10_layHands__51 : decode cX10_layHands_ 51 = .ok (.aload_n 0, 1) := by decide +kernel
theorem dX10_layHands__52 : decode cX10_layHands_ 52 = .ok (.aload_n 0, 1) := by decide +kernel
theorem dX10_layHands__53 : decode cX10_layHands_ 53 = .ok (.invokevirtual 331, 3) := by decide +kernel
theorem dX10_layHands__56 : decode cX10_layHands_ 56 = .ok (.invokevirtual 334, 3) := by decide +kernel
theorem dX10_layHands__59 : decode cX10_layHands_ 59 = .ok (.iand, 1) := by decide +kernel
theorem dX10_layHands__60 : decode cX10_layHands_ 60 = .ok (.putfield 337, 3) := by decide +kernel
theorem dX10_layHands__63 : decode cX10_layHands_ 63 = .ok (.return_, 1) := by decide +kernel
theorem dX10_layHands_0 : decode cX10_layHands 0 = .ok (.aload_n 0, 1) := by decide +kernel
theorem dX10_layHands_1 : decode cX10_layHands 1 = .ok (.aload_n 0, 1) := by decide +kernel
theorem dX10_layHands_2 : decode cX10_layHands 2 = .ok (.getfield 9, 3) := by decide +kernel
theorem dX10_layHands_5 : decode cX10_layHands 5 = .ok (.bipush 18, 2) := by decide +kernel
theorem dX10_layHands_7 : decode cX10_layHands 7 = .ok (.iaload, 1) := by decide +kernel
theorem dX10_layHands_8 : decode cX10_layHands 8 = .ok (.invokevirtual 328, 3) := by decide +kernel
theorem dX10_layHands_11 : decode cX10_layHands 11 = .ok (.return_, 1) := by decide +kernel
theorem dX10_both_0 : decode cX10_both 0 = .ok (.aload_n 0, 1) := by decide +kernel
theorem dX10_both_1 : decode cX10_both 1 = .ok (.iconst 0, 1) := by decide +kernel
theorem dX10_both_2 : decode cX10_both 2 = .ok (.putfield 87, 3) := by decide +kernel
theorem dX10_both_5 : decode cX10_both 5 = .ok (.aload_n 0, 1) := by decide +kernel
theorem dX10_both_6 : decode cX10_both 6 = .ok (.iload_n 1, 1) := by decide +kernel
theorem dX10_both_7 : decode cX10_both 7 = .ok (.invokevirtual 251, 3) := by decide +kernel
theorem dX10_both_10 : decode cX10_both 10 = .ok (.ifCond .eq 16, 3) := by decide +kernel
theorem dX10_both_13 : decode cX10_both 13 = .ok (.aload_n 0, 1) := by decide +kernel
theorem dX10_both_14 : decode cX10_both 14 = .ok (.iload_n 2, 1) := by decide +kernel
theorem dX10_both_15 : decode cX10_both 15 = .ok (.invokevirtual 251, 3) := by decide +kernel
theorem dX10_both_18 : decode cX10_both 18 = .ok (.ifCond .eq 8, 3) := by decide +kernel
theorem dX10_both_21 : decode cX10_both 21 = .ok (.iload_n 1, 1) := by decide +kernel
theorem dX10_both_22 : decode cX10_both 22 = .ok (.iload_n 2, 1) := by decide +kernel
theorem dX10_both_23 : decode cX10_both 23 = .ok (.if_icmp .ne 5, 3) := by decide +kernel
theorem dX10_both_26 : decode cX10_both 26 = .ok (.iconst (-1), 1) := by decide +kernel
theorem dX10_both_27 : decode cX10_both 27 = .ok (.ireturn, 1) := by decide +kernel
theorem dX10_both_28 : decode cX10_both 28 = .ok (.aload_n 0, 1) := by decide +kernel
theorem dX10_both_29 : decode cX10_both 29 = .ok (.invokevirtual 349, 3) := by decide +kernel
theorem dX10_both_32 : decode cX10_both 32 = .ok (.aload_n 0, 1) := by decide +kernel
theorem dX10_both_33 : decode cX10_both 33 = .ok (.iconst 0, 1) := by decide +kernel
theorem dX10_both_34 : decode cX10_both 34 = .ok (.putfield 91, 3) := by decide +kernel
theorem dX10_both_37 : decode cX10_both 37 = .ok (.aload_n 0, 1) := by decide +kernel
theorem dX10_both_38 : decode cX10_both 38 = .ok (.aload_n 0, 1) := by decide +kernel
theorem dX10_both_39 : decode cX10_both 39 = .ok (.getfield 337, 3) := by decide +kernel
theorem dX10_both_42 : decode cX10_both 42 = .ok (.aload_n 0, 1) := by decide +kernel
theorem dX10_both_43 : decode cX10_both 43 = .ok (.getfield 59, 3) := by decide +kernel
theorem dX10_both_46 : decode cX10_both 46 = .ok (.iload_n 1, 1) := by decide +kernel
theorem dX10_both_47 : decode cX10_both 47 = .ok (.iaload, 1) := by decide +kernel
theorem dX10_both_48 : decode cX10_both 48 = .ok (.iand, 1) := by decide +kernel
theorem dX10_both_49 : decode cX10_both 49 = .ok (.aload_n 0, 1) := by decide +kernel
theorem dX10_both_50 : decode cX10_both 50 = .ok (.getfield 59, 3) := by decide +kernel
theorem dX10_both_53 : decode cX10_both 53 = .ok (.iload_n 2, 1) := by decide +kernel
theorem dX10_both_54 : decode cX10_both 54 = .ok (.iaload, 1) := by decide +kernel
theorem dX10_both_55 : decode cX10_both 55 = .ok (.iconst (-1), 1) := by decide +kernel
theorem dX10_both_56 : decode cX10_both 56 = .ok (.ixor, 1) := by decide +kernel
theorem dX10_both_57 : decode cX10_both 57 = .ok (.iand, 1) := by decide +kernel
theorem dX10_both_58 : decode cX10_both 58 = .ok (.invokevirtual 322, 3) := by decide +kernel
theorem dX10_both_61 : decode cX10_both 61 = .ok (.aload_n 0, 1) := by decide +kernel
theorem dX10_both_62 : decode cX10_both 62 = .ok (.aload_n 0, 1) := by decide +kernel
theorem dX10_both_63 : decode cX10_both 63 = .ok (.getfield 337, 3) := by decide +kernel
theorem dX10_both_66 : decode cX10_both 66 = .ok (.aload_n 0, 1) := by decide +kernel
theorem dX10_both_67 : decode cX10_both 67 = .ok (.getfield 59, 3) := by decide +kernel
theorem dX10_both_70 : decode cX10_both 70 = .ok (.iload_n 2, 1) := by decide +kernel
theorem dX10_both_71 : decode cX10_both 71 = .ok (.iaload, 1) := by decide +kernel
theorem dX10_both_72 : decode cX10_both 72 = .ok (.iand, 1) := by decide +kernel
theorem dX10_both_73 : decode cX10_both 73 = .ok (.aload_n 0, 1) := by decide +kernel
theorem dX10_both_74 : decode cX10_both 74 = .ok (.getfield 59, 3) := by decide +kernel
theorem dX10_both_77 : decode cX10_both 77 = .ok (.iload_n 1, 1) := by decide +kernel
theorem dX10_both_78 : decode cX10_both 78 = .ok (.iaload, 1) := by decide +kernel
theorem dX10_both_79 : decode cX10_both 79 = .ok (.iconst (-1), 1) := by decide +kernel
theorem dX10_both_80 : decode cX10_both 80 = .ok (.ixor, 1) := by decide +kernel
theorem dX10_both_81 : decode cX10_both 81 = .ok (.iand, 1) := by decide +kernel
theorem dX10_both_82 : decode cX10_both 82 = .ok (.invokevirtual 322, 3) := by decide +kernel
theorem dX10_both_85 : decode cX10_both 85 = .ok (.aload_n 0, 1) := by decide +kernel
theorem dX10_both_86 : decode cX10_both 86 = .ok (.getfield 337, 3) := by decide +kernel
theorem dX10_both_89 : decode cX10_both 89 = .ok (.aload_n 0, 1) := by decide +kernel
theorem dX10_both_90 : decode cX10_both 90 = .ok (.getfield 59, 3) := by decide +kernel
theorem dX10_both_93 : decode cX10_both 93 = .ok (.iload_n 1, 1) := by decide +kernel
theorem dX10_both_94 : decode cX10_both 94 = .ok (.iaload, 1) := by decide +kernel
theorem dX10_both_95 : decode cX10_both 95 = .ok (.iand, 1) := by decide +kernel
theorem dX10_both_96 : decode cX10_both 96 = .ok (.aload_n 0, 1) := by decide +kernel
theorem dX10_both_97 : decode cX10_both 97 = .ok (.getfield 59, 3) := by decide +kernel
theorem dX10_both_100 : decode cX10_both 100 = .ok (.iload_n 2, 1) := by decide +kernel
theorem dX10_both_101 : decode cX10_both 101 = .ok (.iaload, 1) := by decide +kernel
theorem dX10_both_102 : decode cX10_both 102 = .ok (.iand, 1) := by decide +kernel
theorem dX10_both_103 : decode cX10_both 103 = .ok (.ireturn, 1) := by decide +kernel
theorem dX10_leanOf_0 : decode cX10_leanOf 0 = .ok (.iconst 0, 1) := by decide +kernel
theorem dX10_leanOf_1 : decode cX10_leanOf 1 = .ok (.istore_n 3, 1) := by decide +kernel
theorem dX10_leanOf_2 : decode cX10_leanOf 2 = .ok (.iload_n 3, 1) := by decide +kernel
theorem dX10_leanOf_3 : decode cX10_leanOf 3 = .ok (.bipush 30, 2) := by decide +kernel
theorem dX10_leanOf_5 : decode cX10_leanOf 5 = .ok (.if_icmp .gt 26, 3) := by decide +kernel
theorem dX10_leanOf_8 : decode cX10_leanOf 8 = .ok (.aload_n 0, 1) := by decide +kernel
theorem dX10_leanOf_9 : decode cX10_leanOf 9 = .ok (.iload_n 1, 1) := by decide +kernel
theorem dX10_leanOf_10 : decode cX10_leanOf 10 = .ok (.iload_n 2, 1) := by decide +kernel
theorem dX10_leanOf_11 : decode cX10_leanOf 11 = .ok (.aload_n 0, 1) := by decide +kernel
theorem dX10_leanOf_12 : decode cX10_leanOf 12 = .ok (.getfield 31, 3) := by decide +kernel
theorem dX10_leanOf_15 : decode cX10_leanOf 15 = .ok (.iconst 0, 1) := by decide +kernel
theorem dX10_leanOf_16 : decode cX10_leanOf 16 = .ok (.iaload, 1) := by decide +kernel
theorem dX10_leanOf_17 : decode cX10_leanOf 17 = .ok (.iload_n 3, 1) := by decide +kernel
theorem dX10_leanOf_18 : decode cX10_leanOf 18 = .ok (.iadd, 1) := by decide +kernel
theorem dX10_leanOf_19 : decode cX10_leanOf 19 = .ok (.invokevirtual 217, 3) := by decide +kernel
theorem dX10_leanOf_22 : decode cX10_leanOf 22 = .ok (.ifCond .ne 9, 3) := by decide +kernel
theorem dX10_leanOf_25 : decode cX10_leanOf 25 = .ok (.iinc 3 1, 3) := by decide +kernel
theorem dX10_leanOf_28 : decode cX10_leanOf 28 = .ok (.goto (-26), 3) := by decide +kernel
theorem dX10_leanOf_31 : decode cX10_leanOf 31 = .ok (.iload_n 3, 1) := by decide +kernel
theorem dX10_leanOf_32 : decode cX10_leanOf 32 = .ok (.ireturn, 1) := by decide +kernel
theorem dX10_nearest_0 : decode cX10_nearest 0 = .ok (.aload_n 0, 1) := by decide +kernel
theorem dX10_nearest_1 : decode cX10_nearest 1 = .ok (.iconst 0, 1) := by decide +kernel
theorem dX10_nearest_2 : decode cX10_nearest 2 = .ok (.putfield 87, 3) := by decide +kernel
theorem dX10_nearest_5 : decode cX10_nearest 5 = .ok (.aload_n 0, 1) := by decide +kernel
theorem dX10_nearest_6 : decode cX10_nearest 6 = .ok (.iload_n 1, 1) := by decide +kernel
theorem dX10_nearest_7 : decode cX10_nearest 7 = .ok (.invokevirtual 237, 3) := by decide +kernel
theorem dX10_nearest_10 : decode cX10_nearest 10 = .ok (.ifCond .ne 5, 3) := by decide +kernel
theorem dX10_nearest_13 : decode cX10_nearest 13 = .ok (.iconst (-1), 1) := by decide +kernel
theorem dX10_nearest_14 : decode cX10_nearest 14 = .ok (.ireturn, 1) := by decide +kernel
theorem dX10_nearest_15 : decode cX10_nearest 15 = .ok (.bipush (-2), 2) := by decide +kernel
theorem dX10_nearest_17 : decode cX10_nearest 17 = .ok (.istore_n 2, 1) := by decide +kernel
theorem dX10_nearest_18 : decode cX10_nearest 18 = .ok (.iconst 0, 1) := by decide +kernel
theorem dX10_nearest_19 : decode cX10_nearest 19 = .ok (.istore_n 3, 1) := by decide +kernel
theorem dX10_nearest_20 : decode cX10_nearest 20 = .ok (.iload_n 3, 1) := by decide +kernel
theorem dX10_nearest_21 : decode cX10_nearest 21 = .ok (.aload_n 0, 1) := by decide +kernel
theorem dX10_nearest_22 : decode cX10_nearest 22 = .ok (.getfield 101, 3) := by decide +kernel
theorem dX10_nearest_25 : decode cX10_nearest 25 = .ok (.if_icmp .ge 41, 3) := by decide +kernel
theorem dX10_nearest_28 : decode cX10_nearest 28 = .ok (.aload_n 0, 1) := by decide +kernel
theorem dX10_nearest_29 : decode cX10_nearest 29 = .ok (.iload_n 1, 1) := by decide +kernel
theorem dX10_nearest_30 : decode cX10_nearest 30 = .ok (.iload_n 3, 1) := by decide +kernel
theorem dX10_nearest_31 : decode cX10_nearest 31 = .ok (.invokevirtual 351, 3) := by decide +kernel
theorem dX10_nearest_34 : decode cX10_nearest 34 = .ok (.bipush 30, 2) := by decide +kernel
theorem dX10_nearest_36 : decode cX10_nearest 36 = .ok (.if_icmp .gt 24, 3) := by decide +kernel
theorem dX10_nearest_39 : decode cX10_nearest 39 = .ok (.iload_n 2, 1) := by decide +kernel
theorem dX10_nearest_40 : decode cX10_nearest 40 = .ok (.ifCond .lt 18, 3) := by decide +kernel
theorem dX10_nearest_43 : decode cX10_nearest 43 = .ok (.aload_n 0, 1) := by decide +kernel
theorem dX10_nearest_44 : decode cX10_nearest 44 = .ok (.iload_n 1, 1) := by decide +kernel
theorem dX10_nearest_45 : decode cX10_nearest 45 = .ok (.iload_n 3, 1) := by decide +kernel
theorem dX10_nearest_46 : decode cX10_nearest 46 = .ok (.invokevirtual 351, 3) := by decide +kernel
theorem dX10_nearest_49 : decode cX10_nearest 49 = .ok (.aload_n 0, 1) := by decide +kernel
theorem dX10_nearest_50 : decode cX10_nearest 50 = .ok (.iload_n 1, 1) := by decide +kernel
theorem dX10_nearest_51 : decode cX10_nearest 51 = .ok (.iload_n 2, 1) := by decide +kernel
theorem dX10_nearest_52 : decode cX10_nearest 52 = .ok (.invokevirtual 351, 3) := by decide +kernel
theorem dX10_nearest_55 : decode cX10_nearest 55 = .ok (.if_icmp .ge 5, 3) := by decide +kernel
theorem dX10_nearest_58 : decode cX10_nearest 58 = .ok (.iload_n 3, 1) := by decide +kernel
theorem dX10_nearest_59 : decode cX10_nearest 59 = .ok (.istore_n 2, 1) := by decide +kernel
theorem dX10_nearest_60 : decode cX10_nearest 60 = .ok (.iinc 3 1, 3) := by decide +kernel
theorem dX10_nearest_63 : decode cX10_nearest 63 = .ok (.goto (-43), 3) := by decide +kernel
theorem dX10_nearest_66 : decode cX10_nearest 66 = .ok (.iload_n 2, 1) := by decide +kernel
theorem dX10_nearest_67 : decode cX10_nearest 67 = .ok (.ifCond .ge 6, 3) := by decide +kernel
theorem dX10_nearest_70 : decode cX10_nearest 70 = .ok (.bipush (-2), 2) := by decide +kernel
theorem dX10_nearest_72 : decode cX10_nearest 72 = .ok (.ireturn, 1) := by decide +kernel
theorem dX10_nearest_73 : decode cX10_nearest 73 = .ok (.aload_n 0, 1) := by decide +kernel
theorem dX10_nearest_74 : decode cX10_nearest 74 = .ok (.iconst 0, 1) := by decide +kernel
theorem dX10_nearest_75 : decode cX10_nearest 75 = .ok (.putfield 91, 3) := by decide +kernel
theorem dX10_nearest_78 : decode cX10_nearest 78 = .ok (.aload_n 0, 1) := by decide +kernel
theorem dX10_nearest_79 : decode cX10_nearest 79 = .ok (.aload_n 0, 1) := by decide +kernel
theorem dX10_nearest_80 : decode cX10_nearest 80 = .ok (.iload_n 1, 1) := by decide +kernel
theorem dX10_nearest_81 : decode cX10_nearest 81 = .ok (.iload_n 2, 1) := by decide +kernel
theorem dX10_nearest_82 : decode cX10_nearest 82 = .ok (.invokevirtual 351, 3) := by decide +kernel
theorem dX10_nearest_85 : decode cX10_nearest 85 = .ok (.invokevirtual 322, 3) := by decide +kernel
theorem dX10_nearest_88 : decode cX10_nearest 88 = .ok (.iload_n 2, 1) := by decide +kernel
theorem dX10_nearest_89 : decode cX10_nearest 89 = .ok (.ireturn, 1) := by decide +kernel
theorem dJ6_numberOfTrailingZeros_0f7a4_0 : decode cJ6_numberOfTrailingZeros_0f7a4 0 = .ok (.iload_n 0, 1) := by decide +kernel
theorem dJ6_numberOfTrailingZeros_0f7a4_1 : decode cJ6_numberOfTrailingZeros_0f7a4 1 = .ok (.iconst (-1), 1) := by decide +kernel
theorem dJ6_numberOfTrailingZeros_0f7a4_2 : decode cJ6_numberOfTrailingZeros_0f7a4 2 = .ok (.ixor, 1) := by decide +kernel
theorem dJ6_numberOfTrailingZeros_0f7a4_3 : decode cJ6_numberOfTrailingZeros_0f7a4 3 = .ok (.iload_n 0, 1) := by decide +kernel
theorem dJ6_numberOfTrailingZeros_0f7a4_4 : decode cJ6_numberOfTrailingZeros_0f7a4 4 = .ok (.iconst 1, 1) := by decide +kernel
theorem dJ6_numberOfTrailingZeros_0f7a4_5 : decode cJ6_numberOfTrailingZeros_0f7a4 5 = .ok (.isub, 1) := by decide +kernel
theorem dJ6_numberOfTrailingZeros_0f7a4_6 : decode cJ6_numberOfTrailingZeros_0f7a4 6 = .ok (.iand, 1) := by decide +kernel
theorem dJ6_numberOfTrailingZeros_0f7a4_7 : decode cJ6_numberOfTrailingZeros_0f7a4 7 = .ok (.istore_n 0, 1) := by decide +kernel
theorem dJ6_numberOfTrailingZeros_0f7a4_8 : decode cJ6_numberOfTrailingZeros_0f7a4 8 = .ok (.iload_n 0, 1) := by decide +kernel
theorem dJ6_numberOfTrailingZeros_0f7a4_9 : decode cJ6_numberOfTrailingZeros_0f7a4 9 = .ok (.ifCond .gt 8, 3) := by decide +kernel
theorem dJ6_numberOfTrailingZeros_0f7a4_12 : decode cJ6_numberOfTrailingZeros_0f7a4 12 = .ok (.iload_n 0, 1) := by decide +kernel
theorem dJ6_numberOfTrailingZeros_0f7a4_13 : decode cJ6_numberOfTrailingZeros_0f7a4 13 = .ok (.bipush 32, 2) := by decide +kernel
theorem dJ6_numberOfTrailingZeros_0f7a4_15 : decode cJ6_numberOfTrailingZeros_0f7a4 15 = .ok (.iand, 1) := by decide +kernel
theorem dJ6_numberOfTrailingZeros_0f7a4_16 : decode cJ6_numberOfTrailingZeros_0f7a4 16 = .ok (.ireturn, 1) := by decide +kernel
theorem dJ6_numberOfTrailingZeros_0f7a4_17 : decode cJ6_numberOfTrailingZeros_0f7a4 17 = .ok (.iconst 1, 1) := by decide +kernel
theorem dJ6_numberOfTrailingZeros_0f7a4_18 : decode cJ6_numberOfTrailingZeros_0f7a4 18 = .ok (.istore_n 1, 1) := by decide +kernel
theorem dJ6_numberOfTrailingZeros_0f7a4_19 : decode cJ6_numberOfTrailingZeros_0f7a4 19 = .ok (.iload_n 0, 1) := by decide +kernel
theorem dJ6_numberOfTrailingZeros_0f7a4_20 : decode cJ6_numberOfTrailingZeros_0f7a4 20 = .ok (.ldc_w 264, 3) := by decide +kernel
theorem dJ6_numberOfTrailingZeros_0f7a4_23 : decode cJ6_numberOfTrailingZeros_0f7a4 23 = .ok (.if_icmp .le 11, 3) := by decide +kernel
theorem dJ6_numberOfTrailingZeros_0f7a4_26 : decode cJ6_numberOfTrailingZeros_0f7a4 26 = .ok (.iinc 1 16, 3) := by decide +kernel
theorem dJ6_numberOfTrailingZeros_0f7a4_29 : decode cJ6_numberOfTrailingZeros_0f7a4 29 = .ok (.iload_n 0, 1) := by decide +kernel
theorem dJ6_numberOfTrailingZeros_0f7a4_30 : decode cJ6_numberOfTrailingZeros_0f7a4 30 = .ok (.bipush 16, 2) := by decide +kernel
theorem dJ6_numberOfTrailingZeros_0f7a4_32 : decode cJ6_numberOfTrailingZeros_0f7a4 32 = .ok (.iushr, 1) := by decide +kernel
theorem dJ6_numberOfTrailingZeros_0f7a4_33 : decode cJ6_numberOfTrailingZeros_0f7a4 33 = .ok (.istore_n 0, 1) := by decide +kernel
theorem dJ6_numberOfTrailingZeros_0f7a4_34 : decode cJ6_numberOfTrailingZeros_0f7a4 34 = .ok (.iload_n 0, 1) := by decide +kernel
theorem dJ6_numberOfTrailingZeros_0f7a4_35 : decode cJ6_numberOfTrailingZeros_0f7a4 35 = .ok (.sipush 256, 3) := by decide +kernel
theorem dJ6_numberOfTrailingZeros_0f7a4_38 : decode cJ6_numberOfTrailingZeros_0f7a4 38 = .ok (.if_icmp .le 11, 3) := by decide +kernel
theorem dJ6_numberOfTrailingZeros_0f7a4_41 : decode cJ6_numberOfTrailingZeros_0f7a4 41 = .ok (.iinc 1 8, 3) := by decide +kernel
theorem dJ6_numberOfTrailingZeros_0f7a4_44 : decode cJ6_numberOfTrailingZeros_0f7a4 44 = .ok (.iload_n 0, 1) := by decide +kernel
theorem dJ6_numberOfTrailingZeros_0f7a4_45 : decode cJ6_numberOfTrailingZeros_0f7a4 45 = .ok (.bipush 8, 2) := by decide +kernel
theorem dJ6_numberOfTrailingZeros_0f7a4_47 : decode cJ6_numberOfTrailingZeros_0f7a4 47 = .ok (.iushr, 1) := by decide +kernel
theorem dJ6_numberOfTrailingZeros_0f7a4_48 : decode cJ6_numberOfTrailingZeros_0f7a4 48 = .ok (.istore_n 0, 1) := by decide +kernel
theorem dJ6_numberOfTrailingZeros_0f7a4_49 : decode cJ6_numberOfTrailingZeros_0f7a4 49 = .ok (.iload_n 0, 1) := by decide +kernel
theorem dJ6_numberOfTrailingZeros_0f7a4_50 : decode cJ6_numberOfTrailingZeros_0f7a4 50 = .ok (.bipush 16, 2) := by decide +kernel
theorem dJ6_numberOfTrailingZeros_0f7a4_52 : decode cJ6_numberOfTrailingZeros_0f7a4 52 = .ok (.if_icmp .le 10, 3) := by decide +kernel
theorem dJ6_numberOfTrailingZeros_0f7a4_55 : decode cJ6_numberOfTrailingZeros_0f7a4 55 = .ok (.iinc 1 4, 3) := by decide +kernel
theorem dJ6_numberOfTrailingZeros_0f7a4_58 : decode cJ6_numberOfTrailingZeros_0f7a4 58 = .ok (.iload_n 0, 1) := by decide +kernel
theorem dJ6_numberOfTrailingZeros_0f7a4_59 : decode cJ6_numberOfTrailingZeros_0f7a4 59 = .ok (.iconst 4, 1) := by decide +kernel
theorem dJ6_numberOfTrailingZeros_0f7a4_60 : decode cJ6_numberOfTrailingZeros_0f7a4 60 = .ok (.iushr, 1) := by decide +kernel
theorem dJ6_numberOfTrailingZeros_0f7a4_61 : decode cJ6_numberOfTrailingZeros_0f7a4 61 = .ok (.istore_n 0, 1) := by decide +kernel
theorem dJ6_numberOfTrailingZeros_0f7a4_62 : decode cJ6_numberOfTrailingZeros_0f7a4 62 = .ok (.iload_n 0, 1) := by decide +kernel
theorem dJ6_numberOfTrailingZeros_0f7a4_63 : decode cJ6_numberOfTrailingZeros_0f7a4 63 = .ok (.iconst 4, 1) := by decide +kernel
theorem dJ6_numberOfTrailingZeros_0f7a4_64 : decode cJ6_numberOfTrailingZeros_0f7a4 64 = .ok (.if_icmp .le 10, 3) := by decide +kernel
theorem dJ6_numberOfTrailingZeros_0f7a4_67 : decode cJ6_numberOfTrailingZeros_0f7a4 67 = .ok (.iinc 1 2, 3) := by decide +kernel
theorem dJ6_numberOfTrailingZeros_0f7a4_70 : decode cJ6_numberOfTrailingZeros_0f7a4 70 = .ok (.iload_n 0, 1) := by decide +kernel
theorem dJ6_numberOfTrailingZeros_0f7a4_71 : decode cJ6_numberOfTrailingZeros_0f7a4 71 = .ok (.iconst 2, 1) := by decide +kernel
theorem dJ6_numberOfTrailingZeros_0f7a4_72 : decode cJ6_numberOfTrailingZeros_0f7a4 72 = .ok (.iushr, 1) := by decide +kernel
theorem dJ6_numberOfTrailingZeros_0f7a4_73 : decode cJ6_numberOfTrailingZeros_0f7a4 73 = .ok (.istore_n 0, 1) := by decide +kernel
theorem dJ6_numberOfTrailingZeros_0f7a4_74 : decode cJ6_numberOfTrailingZeros_0f7a4 74 = .ok (.iload_n 1, 1) := by decide +kernel
theorem dJ6_numberOfTrailingZeros_0f7a4_75 : decode cJ6_numberOfTrailingZeros_0f7a4 75 = .ok (.iload_n 0, 1) := by decide +kernel
theorem dJ6_numberOfTrailingZeros_0f7a4_76 : decode cJ6_numberOfTrailingZeros_0f7a4 76 = .ok (.iconst 1, 1) := by decide +kernel
theorem dJ6_numberOfTrailingZeros_0f7a4_77 : decode cJ6_numberOfTrailingZeros_0f7a4 77 = .ok (.iushr, 1) := by decide +kernel
theorem dJ6_numberOfTrailingZeros_0f7a4_78 : decode cJ6_numberOfTrailingZeros_0f7a4 78 = .ok (.iadd, 1) := by decide +kernel
theorem dJ6_numberOfTrailingZeros_0f7a4_79 : decode cJ6_numberOfTrailingZeros_0f7a4 79 = .ok (.ireturn, 1) := by decide +kernel
theorem dX10_isRowAhead_0 : decode cX10_isRowAhead 0 = .ok (.iload_n 0, 1) := by decide +kernel
theorem dX10_isRowAhead_1 : decode cX10_isRowAhead 1 = .ok (.iload_n 1, 1) := by decide +kernel
theorem dX10_isRowAhead_2 : decode cX10_isRowAhead 2 = .ok (.ixor, 1) := by decide +kernel
theorem dX10_isRowAhead_3 : decode cX10_isRowAhead 3 = .ok (.istore_n 2, 1) := by decide +kernel
theorem dX10_isRowAhead_4 : decode cX10_isRowAhead 4 = .ok (.iload_n 0, 1) := by decide +kernel
theorem dX10_isRowAhead_5 : decode cX10_isRowAhead 5 = .ok (.iload_n 2, 1) := by decide +kernel
theorem dX10_isRowAhead_6 : decode cX10_isRowAhead 6 = .ok (.invokestatic 340, 3) := by decide +kernel
theorem dX10_isRowAhead_9 : decode cX10_isRowAhead 9 = .ok (.invokestatic 227, 3) := by decide +kernel
theorem dX10_isRowAhead_12 : decode cX10_isRowAhead 12 = .ok (.ireturn, 1) := by decide +kernel
theorem dX10_cover_0 : decode cX10_cover 0 = .ok (.iconst (-1), 1) := by decide +kernel
theorem dX10_cover_1 : decode cX10_cover 1 = .ok (.istore_n 2, 1) := by decide +kernel
theorem dX10_cover_2 : decode cX10_cover 2 = .ok (.iconst 0, 1) := by decide +kernel
theorem dX10_cover_3 : decode cX10_cover 3 = .ok (.istore_n 3, 1) := by decide +kernel
theorem dX10_cover_4 : decode cX10_cover 4 = .ok (.iload_n 3, 1) := by decide +kernel
theorem dX10_cover_5 : decode cX10_cover 5 = .ok (.aload_n 0, 1) := by decide +kernel
theorem dX10_cover_6 : decode cX10_cover 6 = .ok (.invokevirtual 331, 3) := by decide +kernel
theorem dX10_cover_9 : decode cX10_cover 9 = .ok (.if_icmp .gt 64, 3) := by decide +kernel
theorem dX10_cover_12 : decode cX10_cover 12 = .ok (.iload_n 1, 1) := by decide +kernel
theorem dX10_cover_13 : decode cX10_cover 13 = .ok (.aload_n 0, 1) := by decide +kernel
theorem dX10_cover_14 : decode cX10_cover 14 = .ok (.iload_n 3, 1) := by decide +kernel
theorem dX10_cover_15 : decode cX10_cover 15 = .ok (.invokevirtual 334, 3) := by decide +kernel
theorem dX10_cover_18 : decode cX10_cover 18 = .ok (.iconst (-1), 1) := by decide +kernel
theorem dX10_cover_19 : decode cX10_cover 19 = .ok (.ixor, 1) := by decide +kernel
theorem dX10_cover_20 : decode cX10_cover 20 = .ok (.iand, 1) := by decide +kernel
theorem dX10_cover_21 : decode cX10_cover 21 = .ok (.ifCond .eq 6, 3) := by decide +kernel
theorem dX10_cover_24 : decode cX10_cover 24 = .ok (.goto 43, 3) := by decide +kernel
theorem dX10_cover_27 : decode cX10_cover 27 = .ok (.iload_n 2, 1) := by decide +kernel
theorem dX10_cover_28 : decode cX10_cover 28 = .ok (.iconst (-1), 1) := by decide +kernel
theorem dX10_cover_29 : decode cX10_cover 29 = .ok (.if_icmp .ne 7, 3) := by decide +kernel
theorem dX10_cover_32 : decode cX10_cover 32 = .ok (.iconst (-1), 1) := by decide +kernel
theorem dX10_cover_33 : decode cX10_cover 33 = .ok (.goto 12, 3) := by decide +kernel
theorem dX10_cover_36 : decode cX10_cover 36 = .ok (.iload_n 3, 1) := by decide +kernel
theorem dX10_cover_37 : decode cX10_cover 37 = .ok (.invokestatic 280, 3) := by decide +kernel
theorem dX10_cover_40 : decode cX10_cover 40 = .ok (.iload_n 2, 1) := by decide +kernel
theorem dX10_cover_41 : decode cX10_cover 41 = .ok (.invokestatic 280, 3) := by decide +kernel
theorem dX10_cover_44 : decode cX10_cover 44 = .ok (.isub, 1) := by decide +kernel
theorem dX10_cover_45 : decode cX10_cover 45 = .ok (.istore 4, 2) := by decide +kernel
theorem dX10_cover_47 : decode cX10_cover 47 = .ok (.iload 4, 2) := by decide +kernel
theorem dX10_cover_49 : decode cX10_cover 49 = .ok (.ifCond .lt 16, 3) := by decide +kernel
theorem dX10_cover_52 : decode cX10_cover 52 = .ok (.iload 4, 2) := by decide +kernel
theorem dX10_cover_54 : decode cX10_cover 54 = .ok (.ifCond .ne 13, 3) := by decide +kernel
theorem dX10_cover_57 : decode cX10_cover 57 = .ok (.iload_n 3, 1) := by decide +kernel
theorem dX10_cover_58 : decode cX10_cover 58 = .ok (.iload_n 2, 1) := by decide +kernel
theorem dX10_cover_59 : decode cX10_cover 59 = .ok (.invokestatic 343, 3) := by decide +kernel
theorem dX10_cover_62 : decode cX10_cover 62 = .ok (.ifCond .eq 5, 3) := by decide +kernel
theorem dX10_cover_65 : decode cX10_cover 65 = .ok (.iload_n 3, 1) := by decide +kernel
theorem dX10_cover_66 : decode cX10_cover 66 = .ok (.istore_n 2, 1) := by decide +kernel
theorem dX10_cover_67 : decode cX10_cover 67 = .ok (.iinc 3 1, 3) := by decide +kernel
theorem dX10_cover_70 : decode cX10_cover 70 = .ok (.goto (-66), 3) := by decide +kernel
theorem dX10_cover_73 : decode cX10_cover 73 = .ok (.iload_n 2, 1) := by decide +kernel
theorem dX10_cover_74 : decode cX10_cover 74 = .ok (.ireturn, 1) := by decide +kernel
theorem dX10_tellCover_0 : decode cX10_tellCover 0 = .ok (.aload_n 0, 1) := by decide +kernel
theorem dX10_tellCover_1 : decode cX10_tellCover 1 = .ok (.iload_n 1, 1) := by decide +kernel
theorem dX10_tellCover_2 : decode cX10_tellCover 2 = .ok (.invokevirtual 346, 3) := by decide +kernel
theorem dX10_tellCover_5 : decode cX10_tellCover 5 = .ok (.istore_n 2, 1) := by decide +kernel
theorem dX10_tellCover_6 : decode cX10_tellCover 6 = .ok (.aload_n 0, 1) := by decide +kernel
theorem dX10_tellCover_7 : decode cX10_tellCover 7 = .ok (.iconst 0, 1) := by decide +kernel
theorem dX10_tellCover_8 : decode cX10_tellCover 8 = .ok (.putfield 91, 3) := by decide +kernel
theorem dX10_tellCover_11 : decode cX10_tellCover 11 = .ok (.iconst 0, 1) := by decide +kernel
theorem dX10_tellCover_12 : decode cX10_tellCover 12 = .ok (.istore_n 3, 1) := by decide +kernel
theorem dX10_tellCover_13 : decode cX10_tellCover 13 = .ok (.iload_n 3, 1) := by decide +kernel
theorem dX10_tellCover_14 : decode cX10_tellCover 14 = .ok (.aload_n 0, 1) := by decide +kernel
theorem dX10_tellCover_15 : decode cX10_tellCover 15 = .ok (.getfield 101, 3) := by decide +kernel
theorem dX10_tellCover_18 : decode cX10_tellCover 18 = .ok (.if_icmp .ge 22, 3) := by decide +kernel
theorem dX10_tellCover_21 : decode cX10_tellCover 21 = .ok (.iload_n 2, 1) := by decide +kernel
theorem dX10_tellCover_22 : decode cX10_tellCover 22 = .ok (.iload_n 3, 1) := by decide +kernel
theorem dX10_tellCover_23 : decode cX10_tellCover 23 = .ok (.invokestatic 227, 3) := by decide +kernel
theorem dX10_tellCover_26 : decode cX10_tellCover 26 = .ok (.ifCond .eq 8, 3) := by decide +kernel
theorem dX10_tellCover_29 : decode cX10_tellCover 29 = .ok (.aload_n 0, 1) := by decide +kernel
theorem dX10_tellCover_30 : decode cX10_tellCover 30 = .ok (.iload_n 3, 1) := by decide +kernel
theorem dX10_tellCover_31 : decode cX10_tellCover 31 = .ok (.invokevirtual 322, 3) := by decide +kernel
theorem dX10_tellCover_34 : decode cX10_tellCover 34 = .ok (.iinc 3 1, 3) := by decide +kernel
theorem dX10_tellCover_37 : decode cX10_tellCover 37 = .ok (.goto (-24), 3) := by decide +kernel
theorem dX10_tellCover_40 : decode cX10_tellCover 40 = .ok (.iload_n 2, 1) := by decide +kernel
theorem dX10_tellCover_41 : decode cX10_tellCover 41 = .ok (.invokestatic 280, 3) := by decide +kernel
theorem dX10_tellCover_44 : decode cX10_tellCover 44 = .ok (.ireturn, 1) := by decide +kernel
theorem dX10_fewest_0 : decode cX10_fewest 0 = .ok (.aload_n 0, 1) := by decide +kernel
theorem dX10_fewest_1 : decode cX10_fewest 1 = .ok (.iconst 0, 1) := by decide +kernel
theorem dX10_fewest_2 : decode cX10_fewest 2 = .ok (.putfield 87, 3) := by decide +kernel
theorem dX10_fewest_5 : decode cX10_fewest 5 = .ok (.aload_n 0, 1) := by decide +kernel
theorem dX10_fewest_6 : decode cX10_fewest 6 = .ok (.invokevirtual 349, 3) := by decide +kernel
theorem dX10_fewest_9 : decode cX10_fewest 9 = .ok (.aload_n 0, 1) := by decide +kernel
theorem dX10_fewest_10 : decode cX10_fewest 10 = .ok (.aload_n 0, 1) := by decide +kernel
theorem dX10_fewest_11 : decode cX10_fewest 11 = .ok (.getfield 337, 3) := by decide +kernel
theorem dX10_fewest_14 : decode cX10_fewest 14 = .ok (.invokevirtual 354, 3) := by decide +kernel
theorem dX10_fewest_17 : decode cX10_fewest 17 = .ok (.ireturn, 1) := by decide +kernel
theorem dX10_needed_0 : decode cX10_needed 0 = .ok (.aload_n 0, 1) := by decide +kernel
theorem dX10_needed_1 : decode cX10_needed 1 = .ok (.iconst 0, 1) := by decide +kernel
theorem dX10_needed_2 : decode cX10_needed 2 = .ok (.putfield 87, 3) := by decide +kernel
theorem dX10_needed_5 : decode cX10_needed 5 = .ok (.aload_n 0, 1) := by decide +kernel
theorem dX10_needed_6 : decode cX10_needed 6 = .ok (.invokevirtual 349, 3) := by decide +kernel
theorem dX10_needed_9 : decode cX10_needed 9 = .ok (.iconst 0, 1) := by decide +kernel
theorem dX10_needed_10 : decode cX10_needed 10 = .ok (.istore_n 1, 1) := by decide +kernel
theorem dX10_needed_11 : decode cX10_needed 11 = .ok (.iconst 0, 1) := by decide +kernel
theorem dX10_needed_12 : decode cX10_needed 12 = .ok (.istore_n 2, 1) := by decide +kernel
theorem dX10_needed_13 : decode cX10_needed 13 = .ok (.iconst 0, 1) := by decide +kernel
theorem dX10_needed_14 : decode cX10_needed 14 = .ok (.istore_n 3, 1) := by decide +kernel
theorem dX10_needed_15 : decode cX10_needed 15 = .ok (.iload_n 3, 1) := by decide +kernel
theorem dX10_needed_16 : decode cX10_needed 16 = .ok (.aload_n 0, 1) := by decide +kernel
theorem dX10_needed_17 : decode cX10_needed 17 = .ok (.getfield 94, 3) := by decide +kernel
theorem dX10_needed_20 : decode cX10_needed 20 = .ok (.if_icmp .ge 91, 3) := by decide +kernel
theorem dX10_needed_23 : decode cX10_needed 23 = .ok (.iconst 0, 1) := by decide +kernel
theorem dX10_needed_24 : decode cX10_needed 24 = .ok (.istore 4, 2) := by decide +kernel
theorem dX10_needed_26 : decode cX10_needed 26 = .ok (.iconst 0, 1) := by decide +kernel
theorem dX10_needed_27 : decode cX10_needed 27 = .ok (.istore 5, 2) := by decide +kernel
theorem dX10_needed_29 : decode cX10_needed 29 = .ok (.iload 5, 2) := by decide +kernel
theorem dX10_needed_31 : decode cX10_needed 31 = .ok (.aload_n 0, 1) := by decide +kernel
theorem dX10_needed_32 : decode cX10_needed 32 = .ok (.getfield 101, 3) := by decide +kernel
theorem dX10_needed_35 : decode cX10_needed 35 = .ok (.if_icmp .ge 36, 3) := by decide +kernel
theorem dX10_needed_38 : decode cX10_needed 38 = .ok (.iload 4, 2) := by decide +kernel
theorem dX10_needed_40 : decode cX10_needed 40 = .ok (.aload_n 0, 1) := by decide +kernel
theorem dX10_needed_41 : decode cX10_needed 41 = .ok (.getfield 59, 3) := by decide +kernel
theorem dX10_needed_44 : decode cX10_needed 44 = .ok (.iload 5, 2) := by decide +kernel
theorem dX10_needed_46 : decode cX10_needed 46 = .ok (.iaload, 1) := by decide +kernel
theorem dX10_needed_47 : decode cX10_needed 47 = .ok (.iload_n 3, 1) := by decide +kernel
theorem dX10_needed_48 : decode cX10_needed 48 = .ok (.invokestatic 227, 3) := by decide +kernel
theorem dX10_needed_51 : decode cX10_needed 51 = .ok (.ifCond .eq 10, 3) := by decide +kernel
theorem dX10_needed_54 : decode cX10_needed 54 = .ok (.iconst 1, 1) := by decide +kernel
theorem dX10_needed_55 : decode cX10_needed 55 = .ok (.iload 5, 2) := by decide +kernel
theorem dX10_needed_57 : decode cX10_needed 57 = .ok (.ishl, 1) := by decide +kernel
theorem dX10_needed_58 : decode cX10_needed 58 = .ok (.goto 4, 3) := by decide +kernel
theorem dX10_needed_61 : decode cX10_needed 61 = .ok (.iconst 0, 1) := by decide +kernel
theorem dX10_needed_62 : decode cX10_needed 62 = .ok (.ior, 1) := by decide +kernel
theorem dX10_needed_63 : decode cX10_needed 63 = .ok (.istore 4, 2) := by decide +kernel
theorem dX10_needed_65 : decode cX10_needed 65 = .ok (.iinc 5 1, 3) := by decide +kernel
theorem dX10_needed_68 : decode cX10_needed 68 = .ok (.goto (-39), 3) := by decide +kernel
theorem dX10_needed_71 : decode cX10_needed 71 = .ok (.aload_n 0, 1) := by decide +kernel
theorem dX10_needed_72 : decode cX10_needed 72 = .ok (.getfield 337, 3) := by decide +kernel
theorem dX10_needed_75 : decode cX10_needed 75 = .ok (.iload_n 3, 1) := by decide +kernel
theorem dX10_needed_76 : decode cX10_needed 76 = .ok (.invokestatic 227, 3) := by decide +kernel
theorem dX10_needed_79 : decode cX10_needed 79 = .ok (.ifCond .eq 26, 3) := by decide +kernel
theorem dX10_needed_82 : decode cX10_needed 82 = .ok (.iload 4, 2) := by decide +kernel
theorem dX10_needed_84 : decode cX10_needed 84 = .ok (.invokestatic 280, 3) := by decide +kernel
theorem dX10_needed_87 : decode cX10_needed 87 = .ok (.iconst 1, 1) := by decide +kernel
theorem dX10_needed_88 : decode cX10_needed 88 = .ok (.if_icmp .eq 6, 3) := by decide +kernel
theorem dX10_needed_91 : decode cX10_needed 91 = .ok (.goto 14, 3) := by decide +kernel
theorem dX10_needed_94 : decode cX10_needed 94 = .ok (.iload_n 1, 1) := by decide +kernel
theorem dX10_needed_95 : decode cX10_needed 95 = .ok (.iload 4, 2) := by decide +kernel
theorem dX10_needed_97 : decode cX10_needed 97 = .ok (.ior, 1) := by decide +kernel
theorem dX10_needed_98 : decode cX10_needed 98 = .ok (.istore_n 1, 1) := by decide +kernel
theorem dX10_needed_99 : decode cX10_needed 99 = .ok (.iload_n 2, 1) := by decide +kernel
theorem dX10_needed_100 : decode cX10_needed 100 = .ok (.iconst 1, 1) := by decide +kernel
theorem dX10_needed_101 : decode cX10_needed 101 = .ok (.iload_n 3, 1) := by decide +kernel
theorem dX10_needed_102 : decode cX10_needed 102 = .ok (.ishl, 1) := by decide +kernel
theorem dX10_needed_103 : decode cX10_needed 103 = .ok (.ior, 1) := by decide +kernel
theorem dX10_needed_104 : decode cX10_needed 104 = .ok (.istore_n 2, 1) := by decide +kernel
theorem dX10_needed_105 : decode cX10_needed 105 = .ok (.iinc 3 1, 3) := by decide +kernel
theorem dX10_needed_108 : decode cX10_needed 108 = .ok (.goto (-93), 3) := by decide +kernel
theorem dX10_needed_111 : decode cX10_needed 111 = .ok (.aload_n 0, 1) := by decide +kernel
theorem dX10_needed_112 : decode cX10_needed 112 = .ok (.iconst 0, 1) := by decide +kernel
theorem dX10_needed_113 : decode cX10_needed 113 = .ok (.putfield 91, 3) := by decide +kernel
theorem dX10_needed_116 : decode cX10_needed 116 = .ok (.aload_n 0, 1) := by decide +kernel
theorem dX10_needed_117 : decode cX10_needed 117 = .ok (.iload_n 2, 1) := by decide +kernel
theorem dX10_needed_118 : decode cX10_needed 118 = .ok (.invokevirtual 322, 3) := by decide +kernel
theorem dX10_needed_121 : decode cX10_needed 121 = .ok (.iload_n 1, 1) := by decide +kernel
theorem dX10_needed_122 : decode cX10_needed 122 = .ok (.ireturn, 1) := by decide +kernel
theorem dX10_leftBy_0 : decode cX10_leftBy 0 = .ok (.aload_n 0, 1) := by decide +kernel
theorem dX10_leftBy_1 : decode cX10_leftBy 1 = .ok (.aload_n 0, 1) := by decide +kernel
theorem dX10_leftBy_2 : decode cX10_leftBy 2 = .ok (.getfield 337, 3) := by decide +kernel
theorem dX10_leftBy_5 : decode cX10_leftBy 5 = .ok (.aload_n 0, 1) := by decide +kernel
theorem dX10_leftBy_6 : decode cX10_leftBy 6 = .ok (.iload_n 1, 1) := by decide +kernel
theorem dX10_leftBy_7 : decode cX10_leftBy 7 = .ok (.invokevirtual 334, 3) := by decide +kernel
theorem dX10_leftBy_10 : decode cX10_leftBy 10 = .ok (.iconst (-1), 1) := by decide +kernel
theorem dX10_leftBy_11 : decode cX10_leftBy 11 = .ok (.ixor, 1) := by decide +kernel
theorem dX10_leftBy_12 : decode cX10_leftBy 12 = .ok (.iand, 1) := by decide +kernel
theorem dX10_leftBy_13 : decode cX10_leftBy 13 = .ok (.aload_n 0, 1) := by decide +kernel
theorem dX10_leftBy_14 : decode cX10_leftBy 14 = .ok (.getfield 9, 3) := by decide +kernel
theorem dX10_leftBy_17 : decode cX10_leftBy 17 = .ok (.bipush 16, 2) := by decide +kernel
theorem dX10_leftBy_19 : decode cX10_leftBy 19 = .ok (.iaload, 1) := by decide +kernel
theorem dX10_leftBy_20 : decode cX10_leftBy 20 = .ok (.invokevirtual 325, 3) := by decide +kernel
theorem dX10_leftBy_23 : decode cX10_leftBy 23 = .ok (.ireturn, 1) := by decide +kernel
theorem dX10_birds_0 : decode cX10_birds 0 = .ok (.aload_n 0, 1) := by decide +kernel
theorem dX10_birds_1 : decode cX10_birds 1 = .ok (.iconst 0, 1) := by decide +kernel
theorem dX10_birds_2 : decode cX10_birds 2 = .ok (.putfield 87, 3) := by decide +kernel
theorem dX10_birds_5 : decode cX10_birds 5 = .ok (.iload_n 1, 1) := by decide +kernel
theorem dX10_birds_6 : decode cX10_birds 6 = .ok (.iconst 0, 1) := by decide +kernel
theorem dX10_birds_7 : decode cX10_birds 7 = .ok (.bipush 8, 2) := by decide +kernel
theorem dX10_birds_9 : decode cX10_birds 9 = .ok (.invokestatic 97, 3) := by decide +kernel
theorem dX10_birds_12 : decode cX10_birds 12 = .ok (.ifCond .ne 5, 3) := by decide +kernel
theorem dX10_birds_15 : decode cX10_birds 15 = .ok (.iconst (-1), 1) := by decide +kernel
theorem dX10_birds_16 : decode cX10_birds 16 = .ok (.ireturn, 1) := by decide +kernel
theorem dX10_birds_17 : decode cX10_birds 17 = .ok (.aload_n 0, 1) := by decide +kernel
theorem dX10_birds_18 : decode cX10_birds 18 = .ok (.invokevirtual 349, 3) := by decide +kernel
theorem dX10_birds_21 : decode cX10_birds 21 = .ok (.iconst 0, 1) := by decide +kernel
theorem dX10_birds_22 : decode cX10_birds 22 = .ok (.istore_n 2, 1) := by decide +kernel
theorem dX10_birds_23 : decode cX10_birds 23 = .ok (.iconst 1, 1) := by decide +kernel
theorem dX10_birds_24 : decode cX10_birds 24 = .ok (.istore_n 3, 1) := by decide +kernel
theorem dX10_birds_25 : decode cX10_birds 25 = .ok (.iload_n 3, 1) := by decide +kernel
theorem dX10_birds_26 : decode cX10_birds 26 = .ok (.aload_n 0, 1) := by decide +kernel
theorem dX10_birds_27 : decode cX10_birds 27 = .ok (.invokevirtual 331, 3) := by decide +kernel
theorem dX10_birds_30 : decode cX10_birds 30 = .ok (.if_icmp .gt 58, 3) := by decide +kernel
theorem dX10_birds_33 : decode cX10_birds 33 = .ok (.iload_n 3, 1) := by decide +kernel
theorem dX10_birds_34 : decode cX10_birds 34 = .ok (.invokestatic 280, 3) := by decide +kernel
theorem dX10_birds_37 : decode cX10_birds 37 = .ok (.istore 4, 2) := by decide +kernel
theorem dX10_birds_39 : decode cX10_birds 39 = .ok (.iload 4, 2) := by decide +kernel
theorem dX10_birds_41 : decode cX10_birds 41 = .ok (.iload_n 1, 1) := by decide +kernel
theorem dX10_birds_42 : decode cX10_birds 42 = .ok (.if_icmp .le 6, 3) := by decide +kernel
theorem dX10_birds_45 : decode cX10_birds 45 = .ok (.goto 37, 3) := by decide +kernel
theorem dX10_birds_48 : decode cX10_birds 48 = .ok (.aload_n 0, 1) := by decide +kernel
theorem dX10_birds_49 : decode cX10_birds 49 = .ok (.iload_n 3, 1) := by decide +kernel
theorem dX10_birds_50 : decode cX10_birds 50 = .ok (.invokevirtual 357, 3) := by decide +kernel
theorem dX10_birds_53 : decode cX10_birds 53 = .ok (.aload_n 0, 1) := by decide +kernel
theorem dX10_birds_54 : decode cX10_birds 54 = .ok (.iload_n 2, 1) := by decide +kernel
theorem dX10_birds_55 : decode cX10_birds 55 = .ok (.invokevirtual 357, 3) := by decide +kernel
theorem dX10_birds_58 : decode cX10_birds 58 = .ok (.isub, 1) := by decide +kernel
theorem dX10_birds_59 : decode cX10_birds 59 = .ok (.istore 5, 2) := by decide +kernel
theorem dX10_birds_61 : decode cX10_birds 61 = .ok (.iload 5, 2) := by decide +kernel
theorem dX10_birds_63 : decode cX10_birds 63 = .ok (.ifCond .lt 17, 3) := by decide +kernel
theorem dX10_birds_66 : decode cX10_birds 66 = .ok (.iload 5, 2) := by decide +kernel
theorem dX10_birds_68 : decode cX10_birds 68 = .ok (.ifCond .ne 14, 3) := by decide +kernel
theorem dX10_birds_71 : decode cX10_birds 71 = .ok (.iload 4, 2) := by decide +kernel
theorem dX10_birds_73 : decode cX10_birds 73 = .ok (.iload_n 2, 1) := by decide +kernel
theorem dX10_birds_74 : decode cX10_birds 74 = .ok (.invokestatic 280, 3) := by decide +kernel
theorem dX10_birds_77 : decode cX10_birds 77 = .ok (.if_icmp .ge 5, 3) := by decide +kernel
theorem dX10_birds_80 : decode cX10_birds 80 = .ok (.iload_n 3, 1) := by decide +kernel
theorem dX10_birds_81 : decode cX10_birds 81 = .ok (.istore_n 2, 1) := by decide +kernel
theorem dX10_birds_82 : decode cX10_birds 82 = .ok (.iinc 3 1, 3) := by decide +kernel
theorem dX10_birds_85 : decode cX10_birds 85 = .ok (.goto (-60), 3) := by decide +kernel
theorem dX10_birds_88 : decode cX10_birds 88 = .ok (.aload_n 0, 1) := by decide +kernel
theorem dX10_birds_89 : decode cX10_birds 89 = .ok (.iconst 0, 1) := by decide +kernel
theorem dX10_birds_90 : decode cX10_birds 90 = .ok (.putfield 91, 3) := by decide +kernel
theorem dX10_birds_93 : decode cX10_birds 93 = .ok (.aload_n 0, 1) := by decide +kernel
theorem dX10_birds_94 : decode cX10_birds 94 = .ok (.iload_n 2, 1) := by decide +kernel
theorem dX10_birds_95 : decode cX10_birds 95 = .ok (.invokevirtual 322, 3) := by decide +kernel
theorem dX10_birds_98 : decode cX10_birds 98 = .ok (.aload_n 0, 1) := by decide +kernel
theorem dX10_birds_99 : decode cX10_birds 99 = .ok (.aload_n 0, 1) := by decide +kernel
theorem dX10_birds_100 : decode cX10_birds 100 = .ok (.getfield 337, 3) := by decide +kernel
theorem dX10_birds_103 : decode cX10_birds 103 = .ok (.aload_n 0, 1) := by decide +kernel
theorem dX10_birds_104 : decode cX10_birds 104 = .ok (.iload_n 2, 1) := by decide +kernel
theorem dX10_birds_105 : decode cX10_birds 105 = .ok (.invokevirtual 334, 3) := by decide +kernel
theorem dX10_birds_108 : decode cX10_birds 108 = .ok (.iconst (-1), 1) := by decide +kernel
theorem dX10_birds_109 : decode cX10_birds 109 = .ok (.ixor, 1) := by decide +kernel
theorem dX10_birds_110 : decode cX10_birds 110 = .ok (.iand, 1) := by decide +kernel
theorem dX10_birds_111 : decode cX10_birds 111 = .ok (.invokevirtual 322, 3) := by decide +kernel
theorem dX10_birds_114 : decode cX10_birds 114 = .ok (.aload_n 0, 1) := by decide +kernel
theorem dX10_birds_115 : decode cX10_birds 115 = .ok (.iload_n 2, 1) := by decide +kernel
theorem dX10_birds_116 : decode cX10_birds 116 = .ok (.invokevirtual 357, 3) := by decide +kernel
theorem dX10_birds_119 : decode cX10_birds 119 = .ok (.ireturn, 1) := by decide +kernel
theorem dX10_next_0 : decode cX10_next 0 = .ok (.aload_n 0, 1) := by decide +kernel
theorem dX10_next_1 : decode cX10_next 1 = .ok (.iconst 0, 1) := by decide +kernel
theorem dX10_next_2 : decode cX10_next 2 = .ok (.putfield 87, 3) := by decide +kernel
theorem dX10_next_5 : decode cX10_next 5 = .ok (.iload_n 1, 1) := by decide +kernel
theorem dX10_next_6 : decode cX10_next 6 = .ok (.iconst 0, 1) := by decide +kernel
theorem dX10_next_7 : decode cX10_next 7 = .ok (.aload_n 0, 1) := by decide +kernel
theorem dX10_next_8 : decode cX10_next 8 = .ok (.invokevirtual 331, 3) := by decide +kernel
theorem dX10_next_11 : decode cX10_next 11 = .ok (.invokestatic 97, 3) := by decide +kernel
theorem dX10_next_14 : decode cX10_next 14 = .ok (.ifCond .ne 5, 3) := by decide +kernel
theorem dX10_next_17 : decode cX10_next 17 = .ok (.iconst (-1), 1) := by decide +kernel
theorem dX10_next_18 : decode cX10_next 18 = .ok (.ireturn, 1) := by decide +kernel
theorem dX10_next_19 : decode cX10_next 19 = .ok (.aload_n 0, 1) := by decide +kernel
theorem dX10_next_20 : decode cX10_next 20 = .ok (.invokevirtual 349, 3) := by decide +kernel
theorem dX10_next_23 : decode cX10_next 23 = .ok (.bipush (-2), 2) := by decide +kernel
theorem dX10_next_25 : decode cX10_next 25 = .ok (.istore_n 2, 1) := by decide +kernel
theorem dX10_next_26 : decode cX10_next 26 = .ok (.iconst 0, 1) := by decide +kernel
theorem dX10_next_27 : decode cX10_next 27 = .ok (.istore_n 3, 1) := by decide +kernel
theorem dX10_next_28 : decode cX10_next 28 = .ok (.iload_n 3, 1) := by decide +kernel
theorem dX10_next_29 : decode cX10_next 29 = .ok (.aload_n 0, 1) := by decide +kernel
theorem dX10_next_30 : decode cX10_next 30 = .ok (.getfield 101, 3) := by decide +kernel
theorem dX10_next_33 : decode cX10_next 33 = .ok (.if_icmp .ge 44, 3) := by decide +kernel
theorem dX10_next_36 : decode cX10_next 36 = .ok (.iload_n 1, 1) := by decide +kernel
theorem dX10_next_37 : decode cX10_next 37 = .ok (.iload_n 3, 1) := by decide +kernel
theorem dX10_next_38 : decode cX10_next 38 = .ok (.invokestatic 227, 3) := by decide +kernel
theorem dX10_next_41 : decode cX10_next 41 = .ok (.ifCond .ne 30, 3) := by decide +kernel
theorem dX10_next_44 : decode cX10_next 44 = .ok (.iload_n 2, 1) := by decide +kernel
theorem dX10_next_45 : decode cX10_next 45 = .ok (.ifCond .lt 24, 3) := by decide +kernel
theorem dX10_next_48 : decode cX10_next 48 = .ok (.aload_n 0, 1) := by decide +kernel
theorem dX10_next_49 : decode cX10_next 49 = .ok (.iload_n 1, 1) := by decide +kernel
theorem dX10_next_50 : decode cX10_next 50 = .ok (.iconst 1, 1) := by decide +kernel
theorem dX10_next_51 : decode cX10_next 51 = .ok (.iload_n 3, 1) := by decide +kernel
theorem dX10_next_52 : decode cX10_next 52 = .ok (.ishl, 1) := by decide +kernel
theorem dX10_next_53 : decode cX10_next 53 = .ok (.ior, 1) := by decide +kernel
theorem dX10_next_54 : decode cX10_next 54 = .ok (.invokevirtual 357, 3) := by decide +kernel
theorem dX10_next_57 : decode cX10_next 57 = .ok (.aload_n 0, 1) := by decide +kernel
theorem dX10_next_58 : decode cX10_next 58 = .ok (.iload_n 1, 1) := by decide +kernel
theorem dX10_next_59 : decode cX10_next 59 = .ok (.iconst 1, 1) := by decide +kernel
theorem dX10_next_60 : decode cX10_next 60 = .ok (.iload_n 2, 1) := by decide +kernel
theorem dX10_next_61 : decode cX10_next 61 = .ok (.ishl, 1) := by decide +kernel
theorem dX10_next_62 : decode cX10_next 62 = .ok (.ior, 1) := by decide +kernel
theorem dX10_next_63 : decode cX10_next 63 = .ok (.invokevirtual 357, 3) := by decide +kernel
theorem dX10_next_66 : decode cX10_next 66 = .ok (.if_icmp .ge 5, 3) := by decide +kernel
theorem dX10_next_69 : decode cX10_next 69 = .ok (.iload_n 3, 1) := by decide +kernel
theorem dX10_next_70 : decode cX10_next 70 = .ok (.istore_n 2, 1) := by decide +kernel
theorem dX10_next_71 : decode cX10_next 71 = .ok (.iinc 3 1, 3) := by decide +kernel
theorem dX10_next_74 : decode cX10_next 74 = .ok (.goto (-46), 3) := by decide +kernel
theorem dX10_next_77 : decode cX10_next 77 = .ok (.iload_n 2, 1) := by decide +kernel
theorem dX10_next_78 : decode cX10_next 78 = .ok (.ifCond .ge 6, 3) := by decide +kernel
theorem dX10_next_81 : decode cX10_next 81 = .ok (.bipush (-2), 2) := by decide +kernel
theorem dX10_next_83 : decode cX10_next 83 = .ok (.ireturn, 1) := by decide +kernel
theorem dX10_next_84 : decode cX10_next 84 = .ok (.aload_n 0, 1) := by decide +kernel
theorem dX10_next_85 : decode cX10_next 85 = .ok (.iconst 0, 1) := by decide +kernel
theorem dX10_next_86 : decode cX10_next 86 = .ok (.putfield 91, 3) := by decide +kernel
theorem dX10_next_89 : decode cX10_next 89 = .ok (.aload_n 0, 1) := by decide +kernel
theorem dX10_next_90 : decode cX10_next 90 = .ok (.aload_n 0, 1) := by decide +kernel
theorem dX10_next_91 : decode cX10_next 91 = .ok (.iload_n 1, 1) := by decide +kernel
theorem dX10_next_92 : decode cX10_next 92 = .ok (.iconst 1, 1) := by decide +kernel
theorem dX10_next_93 : decode cX10_next 93 = .ok (.iload_n 2, 1) := by decide +kernel
theorem dX10_next_94 : decode cX10_next 94 = .ok (.ishl, 1) := by decide +kernel
theorem dX10_next_95 : decode cX10_next 95 = .ok (.ior, 1) := by decide +kernel
theorem dX10_next_96 : decode cX10_next 96 = .ok (.invokevirtual 357, 3) := by decide +kernel
theorem dX10_next_99 : decode cX10_next 99 = .ok (.invokevirtual 322, 3) := by decide +kernel
theorem dX10_next_102 : decode cX10_next 102 = .ok (.aload_n 0, 1) := by decide +kernel
theorem dX10_next_103 : decode cX10_next 103 = .ok (.aload_n 0, 1) := by decide +kernel
theorem dX10_next_104 : decode cX10_next 104 = .ok (.iload_n 1, 1) := by decide +kernel
theorem dX10_next_105 : decode cX10_next 105 = .ok (.invokevirtual 357, 3) := by decide +kernel
theorem dX10_next_108 : decode cX10_next 108 = .ok (.invokevirtual 322, 3) := by decide +kernel
theorem dX10_next_111 : decode cX10_next 111 = .ok (.iload_n 2, 1) := by decide +kernel
theorem dX10_next_112 : decode cX10_next 112 = .ok (.ireturn, 1) := by decide +kernel
theorem dX10_leastMoves_0 : decode cX10_leastMoves 0 = .ok (.aload_n 0, 1) := by decide +kernel
theorem dX10_leastMoves_1 : decode cX10_leastMoves 1 = .ok (.getfield 62, 3) := by decide +kernel
theorem dX10_leastMoves_4 : decode cX10_leastMoves 4 = .ok (.iload_n 1, 1) := by decide +kernel
theorem dX10_leastMoves_5 : decode cX10_leastMoves 5 = .ok (.bipush 8, 2) := by decide +kernel
theorem dX10_leastMoves_7 : decode cX10_leastMoves 7 = .ok (.ishl, 1) := by decide +kernel
theorem dX10_leastMoves_8 : decode cX10_leastMoves 8 = .ok (.iload_n 2, 1) := by decide +kernel
theorem dX10_leastMoves_9 : decode cX10_leastMoves 9 = .ok (.iadd, 1) := by decide +kernel
theorem dX10_leastMoves_10 : decode cX10_leastMoves 10 = .ok (.iaload, 1) := by decide +kernel
theorem dX10_leastMoves_11 : decode cX10_leastMoves 11 = .ok (.ireturn, 1) := by decide +kernel
theorem dX10_layMoves_0 : decode cX10_layMoves 0 = .ok (.iconst 0, 1) := by decide +kernel
theorem dX10_layMoves_1 : decode cX10_layMoves 1 = .ok (.istore_n 1, 1) := by decide +kernel
theorem dX10_layMoves_2 : decode cX10_layMoves 2 = .ok (.iload_n 1, 1) := by decide +kernel
theorem dX10_layMoves_3 : decode cX10_layMoves 3 = .ok (.aload_n 0, 1) := by decide +kernel
theorem dX10_layMoves_4 : decode cX10_layMoves 4 = .ok (.invokevirtual 331, 3) := by decide +kernel
theorem dX10_layMoves_7 : decode cX10_layMoves 7 = .ok (.if_icmp .gt 136, 3) := by decide +kernel
theorem dX10_layMoves_10 : decode cX10_layMoves 10 = .ok (.iconst 0, 1) := by decide +kernel
theorem dX10_layMoves_11 : decode cX10_layMoves 11 = .ok (.istore_n 2, 1) := by decide +kernel
theorem dX10_layMoves_12 : decode cX10_layMoves 12 = .ok (.iload_n 2, 1) := by decide +kernel
theorem dX10_layMoves_13 : decode cX10_layMoves 13 = .ok (.bipush 8, 2) := by decide +kernel
theorem dX10_layMoves_15 : decode cX10_layMoves 15 = .ok (.if_icmp .gt 122, 3) := by decide +kernel
theorem dX10_layMoves_18 : decode cX10_layMoves 18 = .ok (.iload_n 2, 1) := by decide +kernel
theorem dX10_layMoves_19 : decode cX10_layMoves 19 = .ok (.bipush 8, 2) := by decide +kernel
theorem dX10_layMoves_21 : decode cX10_layMoves 21 = .ok (.if_icmp .ge 22, 3) := by decide +kernel
theorem dX10_layMoves_24 : decode cX10_layMoves 24 = .ok (.iload_n 2, 1) := by decide +kernel
theorem dX10_layMoves_25 : decode cX10_layMoves 25 = .ok (.aload_n 0, 1) := by decide +kernel
theorem dX10_layMoves_26 : decode cX10_layMoves 26 = .ok (.getfield 101, 3) := by decide +kernel
theorem dX10_layMoves_29 : decode cX10_layMoves 29 = .ok (.if_icmp .ge 102, 3) := by decide +kernel
theorem dX10_layMoves_32 : decode cX10_layMoves 32 = .ok (.iload_n 1, 1) := by decide +kernel
theorem dX10_layMoves_33 : decode cX10_layMoves 33 = .ok (.iload_n 2, 1) := by decide +kernel
theorem dX10_layMoves_34 : decode cX10_layMoves 34 = .ok (.invokestatic 227, 3) := by decide +kernel
theorem dX10_layMoves_37 : decode cX10_layMoves 37 = .ok (.ifCond .eq 6, 3) := by decide +kernel
theorem dX10_layMoves_40 : decode cX10_layMoves 40 = .ok (.goto 91, 3) := by decide +kernel
theorem dX10_layMoves_43 : decode cX10_layMoves 43 = .ok (.iload_n 1, 1) := by decide +kernel
theorem dX10_layMoves_44 : decode cX10_layMoves 44 = .ok (.ifCond .ne 7, 3) := by decide +kernel
theorem dX10_layMoves_47 : decode cX10_layMoves 47 = .ok (.iconst 0, 1) := by decide +kernel
theorem dX10_layMoves_48 : decode cX10_layMoves 48 = .ok (.goto 6, 3) := by decide +kernel
theorem dX10_layMoves_51 : decode cX10_layMoves 51 = .ok (.ldc_w 360, 3) := by decide +kernel
theorem dX10_layMoves_54 : decode cX10_layMoves 54 = .ok (.istore_n 3, 1) := by decide +kernel
theorem dX10_layMoves_55 : decode cX10_layMoves 55 = .ok (.iconst 0, 1) := by decide +kernel
theorem dX10_layMoves_56 : decode cX10_layMoves 56 = .ok (.istore 4, 2) := by decide +kernel
theorem dX10_layMoves_58 : decode cX10_layMoves 58 = .ok (.iload 4, 2) := by decide +kernel
theorem dX10_layMoves_60 : decode cX10_layMoves 60 = .ok (.aload_n 0, 1) := by decide +kernel
theorem dX10_layMoves_61 : decode cX10_layMoves 61 = .ok (.getfield 101, 3) := by decide +kernel
theorem dX10_layMoves_64 : decode cX10_layMoves 64 = .ok (.if_icmp .ge 55, 3) := by decide +kernel
theorem dX10_layMoves_67 : decode cX10_layMoves 67 = .ok (.iload_n 1, 1) := by decide +kernel
theorem dX10_layMoves_68 : decode cX10_layMoves 68 = .ok (.iload 4, 2) := by decide +kernel
theorem dX10_layMoves_70 : decode cX10_layMoves 70 = .ok (.invokestatic 227, 3) := by decide +kernel
theorem dX10_layMoves_73 : decode cX10_layMoves 73 = .ok (.ifCond .eq 40, 3) := by decide +kernel
theorem dX10_layMoves_76 : decode cX10_layMoves 76 = .ok (.iload_n 3, 1) := by decide +kernel
theorem dX10_layMoves_77 : decode cX10_layMoves 77 = .ok (.aload_n 0, 1) := by decide +kernel
theorem dX10_layMoves_78 : decode cX10_layMoves 78 = .ok (.iload_n 2, 1) := by decide +kernel
theorem dX10_layMoves_79 : decode cX10_layMoves 79 = .ok (.bipush 8, 2) := by decide +kernel
theorem dX10_layMoves_81 : decode cX10_layMoves 81 = .ok (.if_icmp .ne 7, 3) := by decide +kernel
theorem dX10_layMoves_84 : decode cX10_layMoves 84 = .ok (.iconst (-1), 1) := by decide +kernel
theorem dX10_layMoves_85 : decode cX10_layMoves 85 = .ok (.goto 4, 3) := by decide +kernel
theorem dX10_layMoves_88 : decode cX10_layMoves 88 = .ok (.iload_n 2, 1) := by decide +kernel
theorem dX10_layMoves_89 : decode cX10_layMoves 89 = .ok (.iload 4, 2) := by decide +kernel
theorem dX10_layMoves_91 : decode cX10_layMoves 91 = .ok (.invokevirtual 261, 3) := by decide +kernel
theorem dX10_layMoves_94 : decode cX10_layMoves 94 = .ok (.aload_n 0, 1) := by decide +kernel
theorem dX10_layMoves_95 : decode cX10_layMoves 95 = .ok (.iload 4, 2) := by decide +kernel
theorem dX10_layMoves_97 : decode cX10_layMoves 97 = .ok (.iload_n 1, 1) := by decide +kernel
theorem dX10_layMoves_98 : decode cX10_layMoves 98 = .ok (.iconst 1, 1) := by decide +kernel
theorem dX10_layMoves_99 : decode cX10_layMoves 99 = .ok (.iload 4, 2) := by decide +kernel
theorem dX10_layMoves_101 : decode cX10_layMoves 101 = .ok (.ishl, 1) := by decide +kernel
theorem dX10_layMoves_102 : decode cX10_layMoves 102 = .ok (.iconst (-1), 1) := by decide +kernel
theorem dX10_layMoves_103 : decode cX10_layMoves 103 = .ok (.ixor, 1) := by decide +kernel
theorem dX10_layMoves_104 : decode cX10_layMoves 104 = .ok (.iand, 1) := by decide +kernel
theorem dX10_layMoves_105 : decode cX10_layMoves 105 = .ok (.invokevirtual 361, 3) := by decide +kernel
theorem dX10_layMoves_108 : decode cX10_layMoves 108 = .ok (.iadd, 1) := by decide +kernel
theorem dX10_layMoves_109 : decode cX10_layMoves 109 = .ok (.invokestatic 224, 3) := by decide +kernel
theorem dX10_layMoves_112 : decode cX10_layMoves 112 = .ok (.istore_n 3, 1) := by decide +kernel
theorem dX10_layMoves_113 : decode cX10_layMoves 113 = .ok (.iinc 4 1, 3) := by decide +kernel
theorem dX10_layMoves_116 : decode cX10_layMoves 116 = .ok (.goto (-58), 3) := by decide +kernel
theorem dX10_layMoves_119 : decode cX10_layMoves 119 = .ok (.aload_n 0, 1) := by decide +kernel
theorem dX10_layMoves_120 : decode cX10_layMoves 120 = .ok (.getfield 62, 3) := by decide +kernel
theorem dX10_layMoves_123 : decode cX10_layMoves 123 = .ok (.iload_n 2, 1) := by decide +kernel
theorem dX10_layMoves_124 : decode cX10_layMoves 124 = .ok (.bipush 8, 2) := by decide +kernel
theorem dX10_layMoves_126 : decode cX10_layMoves 126 = .ok (.ishl, 1) := by decide +kernel
theorem dX10_layMoves_127 : decode cX10_layMoves 127 = .ok (.iload_n 1, 1) := by decide +kernel
theorem dX10_layMoves_128 : decode cX10_layMoves 128 = .ok (.iadd, 1) := by decide +kernel
theorem dX10_layMoves_129 : decode cX10_layMoves 129 = .ok (.iload_n 3, 1) := by decide +kernel
theorem dX10_layMoves_130 : decode cX10_layMoves 130 = .ok (.iastore, 1) := by decide +kernel
theorem dX10_layMoves_131 : decode cX10_layMoves 131 = .ok (.iinc 2 1, 3) := by decide +kernel
theorem dX10_layMoves_134 : decode cX10_layMoves 134 = .ok (.goto (-122), 3) := by decide +kernel
theorem dX10_layMoves_137 : decode cX10_layMoves 137 = .ok (.iinc 1 1, 3) := by decide +kernel
theorem dX10_layMoves_140 : decode cX10_layMoves 140 = .ok (.goto (-138), 3) := by decide +kernel
theorem dX10_layMoves_143 : decode cX10_layMoves 143 = .ok (.return_, 1) := by decide +kernel
theorem dX10_besides_0 : decode cX10_besides 0 = .ok (.aload_n 0, 1) := by decide +kernel
theorem dX10_besides_1 : decode cX10_besides 1 = .ok (.getfield 9, 3) := by decide +kernel
theorem dX10_besides_4 : decode cX10_besides 4 = .ok (.bipush 17, 2) := by decide +kernel
theorem dX10_besides_6 : decode cX10_besides 6 = .ok (.iaload, 1) := by decide +kernel
theorem dX10_besides_7 : decode cX10_besides 7 = .ok (.iconst (-1), 1) := by decide +kernel
theorem dX10_besides_8 : decode cX10_besides 8 = .ok (.if_icmp .ne 7, 3) := by decide +kernel
theorem dX10_besides_11 : decode cX10_besides 11 = .ok (.iload_n 1, 1) := by decide +kernel
theorem dX10_besides_12 : decode cX10_besides 12 = .ok (.goto 16, 3) := by decide +kernel
theorem dX10_besides_15 : decode cX10_besides 15 = .ok (.iload_n 1, 1) := by decide +kernel
theorem dX10_besides_16 : decode cX10_besides 16 = .ok (.iconst 1, 1) := by decide +kernel
theorem dX10_besides_17 : decode cX10_besides 17 = .ok (.aload_n 0, 1) := by decide +kernel
theorem dX10_besides_18 : decode cX10_besides 18 = .ok (.getfield 9, 3) := by decide +kernel
theorem dX10_besides_21 : decode cX10_besides 21 = .ok (.bipush 17, 2) := by decide +kernel
theorem dX10_besides_23 : decode cX10_besides 23 = .ok (.iaload, 1) := by decide +kernel
theorem dX10_besides_24 : decode cX10_besides 24 = .ok (.ishl, 1) := by decide +kernel
theorem dX10_besides_25 : decode cX10_besides 25 = .ok (.iconst (-1), 1) := by decide +kernel
theorem dX10_besides_26 : decode cX10_besides 26 = .ok (.ixor, 1) := by decide +kernel
theorem dX10_besides_27 : decode cX10_besides 27 = .ok (.iand, 1) := by decide +kernel
theorem dX10_besides_28 : decode cX10_besides 28 = .ok (.ireturn, 1) := by decide +kernel
theorem dX10_placeOf_0 : decode cX10_placeOf 0 = .ok (.iload_n 1, 1) := by decide +kernel
theorem dX10_placeOf_1 : decode cX10_placeOf 1 = .ok (.iconst (-1), 1) := by decide +kernel
theorem dX10_placeOf_2 : decode cX10_placeOf 2 = .ok (.if_icmp .ne 8, 3) := by decide +kernel
theorem dX10_placeOf_5 : decode cX10_placeOf 5 = .ok (.bipush 8, 2) := by decide +kernel
theorem dX10_placeOf_7 : decode cX10_placeOf 7 = .ok (.goto 4, 3) := by decide +kernel
theorem dX10_placeOf_10 : decode cX10_placeOf 10 = .ok (.iload_n 1, 1) := by decide +kernel
theorem dX10_placeOf_11 : decode cX10_placeOf 11 = .ok (.ireturn, 1) := by decide +kernel
theorem dX10_route_0 : decode cX10_route 0 = .ok (.aload_n 0, 1) := by decide +kernel
theorem dX10_route_1 : decode cX10_route 1 = .ok (.iconst 0, 1) := by decide +kernel
theorem dX10_route_2 : decode cX10_route 2 = .ok (.putfield 87, 3) := by decide +kernel
theorem dX10_route_5 : decode cX10_route 5 = .ok (.iload_n 1, 1) := by decide +kernel
theorem dX10_route_6 : decode cX10_route 6 = .ok (.iconst 0, 1) := by decide +kernel
theorem dX10_route_7 : decode cX10_route 7 = .ok (.aload_n 0, 1) := by decide +kernel
theorem dX10_route_8 : decode cX10_route 8 = .ok (.invokevirtual 331, 3) := by decide +kernel
theorem dX10_route_11 : decode cX10_route 11 = .ok (.invokestatic 97, 3) := by decide +kernel
theorem dX10_route_14 : decode cX10_route 14 = .ok (.ifCond .ne 5, 3) := by decide +kernel
theorem dX10_route_17 : decode cX10_route 17 = .ok (.iconst (-1), 1) := by decide +kernel
theorem dX10_route_18 : decode cX10_route 18 = .ok (.ireturn, 1) := by decide +kernel
theorem dX10_route_19 : decode cX10_route 19 = .ok (.aload_n 0, 1) := by decide +kernel
theorem dX10_route_20 : decode cX10_route 20 = .ok (.invokevirtual 364, 3) := by decide +kernel
theorem dX10_route_23 : decode cX10_route 23 = .ok (.aload_n 0, 1) := by decide +kernel
theorem dX10_route_24 : decode cX10_route 24 = .ok (.iload_n 1, 1) := by decide +kernel
theorem dX10_route_25 : decode cX10_route 25 = .ok (.invokevirtual 367, 3) := by decide +kernel
theorem dX10_route_28 : decode cX10_route 28 = .ok (.istore_n 2, 1) := by decide +kernel
theorem dX10_route_29 : decode cX10_route 29 = .ok (.aload_n 0, 1) := by decide +kernel
theorem dX10_route_30 : decode cX10_route 30 = .ok (.getfield 9, 3) := by decide +kernel
theorem dX10_route_33 : decode cX10_route 33 = .ok (.bipush 17, 2) := by decide +kernel
