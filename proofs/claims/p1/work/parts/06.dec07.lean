theorem dX9_grass_10 : decode cX9_grass 10 = .ok (.if_icmp .gt 55, 3) := by decide +kernel
theorem dX9_grass_13 : decode cX9_grass 13 = .ok (.aload_n 0, 1) := by decide +kernel
theorem dX9_grass_14 : decode cX9_grass 14 = .ok (.getfield 10, 3) := by decide +kernel
theorem dX9_grass_17 : decode cX9_grass 17 = .ok (.bipush 80, 2) := by decide +kernel
theorem dX9_grass_19 : decode cX9_grass 19 = .ok (.invokevirtual 73, 3) := by decide +kernel
theorem dX9_grass_22 : decode cX9_grass 22 = .ok (.aload_n 0, 1) := by decide +kernel
theorem dX9_grass_23 : decode cX9_grass 23 = .ok (.getfield 57, 3) := by decide +kernel
theorem dX9_grass_26 : decode cX9_grass 26 = .ok (.aload_n 0, 1) := by decide +kernel
theorem dX9_grass_27 : decode cX9_grass 27 = .ok (.getfield 10, 3) := by decide +kernel
theorem dX9_grass_30 : decode cX9_grass 30 = .ok (.invokevirtual 396, 3) := by decide +kernel
theorem dX9_grass_33 : decode cX9_grass 33 = .ok (.ifCond .eq 24, 3) := by decide +kernel
theorem dX9_grass_36 : decode cX9_grass 36 = .ok (.aload_n 0, 1) := by decide +kernel
theorem dX9_grass_37 : decode cX9_grass 37 = .ok (.getfield 57, 3) := by decide +kernel
theorem dX9_grass_40 : decode cX9_grass 40 = .ok (.aload_n 0, 1) := by decide +kernel
theorem dX9_grass_41 : decode cX9_grass 41 = .ok (.getfield 34, 3) := by decide +kernel
theorem dX9_grass_44 : decode cX9_grass 44 = .ok (.iload_n 1, 1) := by decide +kernel
theorem dX9_grass_45 : decode cX9_grass 45 = .ok (.invokevirtual 399, 3) := by decide +kernel
theorem dX9_grass_48 : decode cX9_grass 48 = .ok (.istore_n 2, 1) := by decide +kernel
theorem dX9_grass_49 : decode cX9_grass 49 = .ok (.aload_n 0, 1) := by decide +kernel
theorem dX9_grass_50 : decode cX9_grass 50 = .ok (.iload_n 2, 1) := by decide +kernel
theorem dX9_grass_51 : decode cX9_grass 51 = .ok (.invokevirtual 403, 3) := by decide +kernel
theorem dX9_grass_54 : decode cX9_grass 54 = .ok (.goto 11, 3) := by decide +kernel
theorem dX9_grass_57 : decode cX9_grass 57 = .ok (.aload_n 0, 1) := by decide +kernel
theorem dX9_grass_58 : decode cX9_grass 58 = .ok (.getfield 10, 3) := by decide +kernel
theorem dX9_grass_61 : decode cX9_grass 61 = .ok (.invokevirtual 91, 3) := by decide +kernel
theorem dX9_grass_64 : decode cX9_grass 64 = .ok (.istore_n 2, 1) := by decide +kernel
theorem dX9_grass_65 : decode cX9_grass 65 = .ok (.aload_n 0, 1) := by decide +kernel
theorem dX9_grass_66 : decode cX9_grass 66 = .ok (.getfield 10, 3) := by decide +kernel
theorem dX9_grass_69 : decode cX9_grass 69 = .ok (.invokevirtual 101, 3) := by decide +kernel
theorem dX9_grass_72 : decode cX9_grass 72 = .ok (.iload_n 2, 1) := by decide +kernel
theorem dX9_grass_73 : decode cX9_grass 73 = .ok (.ireturn, 1) := by decide +kernel
theorem dX5_isFitting_0 : decode cX5_isFitting 0 = .ok (.iconst 0, 1) := by decide +kernel
theorem dX5_isFitting_1 : decode cX5_isFitting 1 = .ok (.istore_n 3, 1) := by decide +kernel
theorem dX5_isFitting_2 : decode cX5_isFitting 2 = .ok (.iload_n 3, 1) := by decide +kernel
theorem dX5_isFitting_3 : decode cX5_isFitting 3 = .ok (.aload_n 0, 1) := by decide +kernel
theorem dX5_isFitting_4 : decode cX5_isFitting 4 = .ok (.getfield 24, 3) := by decide +kernel
theorem dX5_isFitting_7 : decode cX5_isFitting 7 = .ok (.getfield 64, 3) := by decide +kernel
theorem dX5_isFitting_10 : decode cX5_isFitting 10 = .ok (.if_icmp .ge 30, 3) := by decide +kernel
theorem dX5_isFitting_13 : decode cX5_isFitting 13 = .ok (.iload_n 1, 1) := by decide +kernel
theorem dX5_isFitting_14 : decode cX5_isFitting 14 = .ok (.iload_n 3, 1) := by decide +kernel
theorem dX5_isFitting_15 : decode cX5_isFitting 15 = .ok (.ishr, 1) := by decide +kernel
theorem dX5_isFitting_16 : decode cX5_isFitting 16 = .ok (.iconst 1, 1) := by decide +kernel
theorem dX5_isFitting_17 : decode cX5_isFitting 17 = .ok (.iand, 1) := by decide +kernel
theorem dX5_isFitting_18 : decode cX5_isFitting 18 = .ok (.ifCond .eq 16, 3) := by decide +kernel
theorem dX5_isFitting_21 : decode cX5_isFitting 21 = .ok (.aload_n 0, 1) := by decide +kernel
theorem dX5_isFitting_22 : decode cX5_isFitting 22 = .ok (.getfield 25, 3) := by decide +kernel
theorem dX5_isFitting_25 : decode cX5_isFitting 25 = .ok (.iload_n 3, 1) := by decide +kernel
theorem dX5_isFitting_26 : decode cX5_isFitting 26 = .ok (.iaload, 1) := by decide +kernel
theorem dX5_isFitting_27 : decode cX5_isFitting 27 = .ok (.iload_n 2, 1) := by decide +kernel
theorem dX5_isFitting_28 : decode cX5_isFitting 28 = .ok (.iand, 1) := by decide +kernel
theorem dX5_isFitting_29 : decode cX5_isFitting 29 = .ok (.ifCond .ne 5, 3) := by decide +kernel
theorem dX5_isFitting_32 : decode cX5_isFitting 32 = .ok (.iconst 0, 1) := by decide +kernel
theorem dX5_isFitting_33 : decode cX5_isFitting 33 = .ok (.ireturn, 1) := by decide +kernel
theorem dX5_isFitting_34 : decode cX5_isFitting 34 = .ok (.iinc 3 1, 3) := by decide +kernel
theorem dX5_isFitting_37 : decode cX5_isFitting 37 = .ok (.goto (-35), 3) := by decide +kernel
theorem dX5_isFitting_40 : decode cX5_isFitting 40 = .ok (.iload_n 2, 1) := by decide +kernel
theorem dX5_isFitting_41 : decode cX5_isFitting 41 = .ok (.aload_n 0, 1) := by decide +kernel
theorem dX5_isFitting_42 : decode cX5_isFitting 42 = .ok (.iload_n 1, 1) := by decide +kernel
theorem dX5_isFitting_43 : decode cX5_isFitting 43 = .ok (.invokevirtual 81, 3) := by decide +kernel
theorem dX5_isFitting_46 : decode cX5_isFitting 46 = .ok (.iconst (-1), 1) := by decide +kernel
theorem dX5_isFitting_47 : decode cX5_isFitting 47 = .ok (.ixor, 1) := by decide +kernel
theorem dX5_isFitting_48 : decode cX5_isFitting 48 = .ok (.iand, 1) := by decide +kernel
theorem dX5_isFitting_49 : decode cX5_isFitting 49 = .ok (.ifCond .ne 7, 3) := by decide +kernel
theorem dX5_isFitting_52 : decode cX5_isFitting 52 = .ok (.iconst 1, 1) := by decide +kernel
theorem dX5_isFitting_53 : decode cX5_isFitting 53 = .ok (.goto 4, 3) := by decide +kernel
theorem dX5_isFitting_56 : decode cX5_isFitting 56 = .ok (.iconst 0, 1) := by decide +kernel
theorem dX5_isFitting_57 : decode cX5_isFitting 57 = .ok (.ireturn, 1) := by decide +kernel
theorem dX9_fits_0 : decode cX9_fits 0 = .ok (.iload_n 1, 1) := by decide +kernel
theorem dX9_fits_1 : decode cX9_fits 1 = .ok (.aload_n 0, 1) := by decide +kernel
theorem dX9_fits_2 : decode cX9_fits 2 = .ok (.getfield 34, 3) := by decide +kernel
theorem dX9_fits_5 : decode cX9_fits 5 = .ok (.invokevirtual 406, 3) := by decide +kernel
theorem dX9_fits_8 : decode cX9_fits 8 = .ok (.iconst (-1), 1) := by decide +kernel
theorem dX9_fits_9 : decode cX9_fits 9 = .ok (.ixor, 1) := by decide +kernel
theorem dX9_fits_10 : decode cX9_fits 10 = .ok (.iand, 1) := by decide +kernel
theorem dX9_fits_11 : decode cX9_fits 11 = .ok (.ifCond .eq 5, 3) := by decide +kernel
theorem dX9_fits_14 : decode cX9_fits 14 = .ok (.iconst (-1), 1) := by decide +kernel
theorem dX9_fits_15 : decode cX9_fits 15 = .ok (.ireturn, 1) := by decide +kernel
theorem dX9_fits_16 : decode cX9_fits 16 = .ok (.aload_n 0, 1) := by decide +kernel
theorem dX9_fits_17 : decode cX9_fits 17 = .ok (.getfield 19, 3) := by decide +kernel
theorem dX9_fits_20 : decode cX9_fits 20 = .ok (.invokevirtual 265, 3) := by decide +kernel
theorem dX9_fits_23 : decode cX9_fits 23 = .ok (.iconst 0, 1) := by decide +kernel
theorem dX9_fits_24 : decode cX9_fits 24 = .ok (.istore_n 2, 1) := by decide +kernel
theorem dX9_fits_25 : decode cX9_fits 25 = .ok (.iconst (-1), 1) := by decide +kernel
theorem dX9_fits_26 : decode cX9_fits 26 = .ok (.istore_n 3, 1) := by decide +kernel
theorem dX9_fits_27 : decode cX9_fits 27 = .ok (.iconst (-1), 1) := by decide +kernel
theorem dX9_fits_28 : decode cX9_fits 28 = .ok (.istore 4, 2) := by decide +kernel
theorem dX9_fits_30 : decode cX9_fits 30 = .ok (.iconst 0, 1) := by decide +kernel
theorem dX9_fits_31 : decode cX9_fits 31 = .ok (.istore 5, 2) := by decide +kernel
theorem dX9_fits_33 : decode cX9_fits 33 = .ok (.iload 5, 2) := by decide +kernel
theorem dX9_fits_35 : decode cX9_fits 35 = .ok (.aload_n 0, 1) := by decide +kernel
theorem dX9_fits_36 : decode cX9_fits 36 = .ok (.getfield 34, 3) := by decide +kernel
theorem dX9_fits_39 : decode cX9_fits 39 = .ok (.invokevirtual 277, 3) := by decide +kernel
theorem dX9_fits_42 : decode cX9_fits 42 = .ok (.if_icmp .gt 68, 3) := by decide +kernel
theorem dX9_fits_45 : decode cX9_fits 45 = .ok (.aload_n 0, 1) := by decide +kernel
theorem dX9_fits_46 : decode cX9_fits 46 = .ok (.getfield 19, 3) := by decide +kernel
theorem dX9_fits_49 : decode cX9_fits 49 = .ok (.iload 5, 2) := by decide +kernel
theorem dX9_fits_51 : decode cX9_fits 51 = .ok (.iload_n 1, 1) := by decide +kernel
theorem dX9_fits_52 : decode cX9_fits 52 = .ok (.invokevirtual 409, 3) := by decide +kernel
theorem dX9_fits_55 : decode cX9_fits 55 = .ok (.ifCond .eq 49, 3) := by decide +kernel
theorem dX9_fits_58 : decode cX9_fits 58 = .ok (.iinc 2 1, 3) := by decide +kernel
theorem dX9_fits_61 : decode cX9_fits 61 = .ok (.iload_n 3, 1) := by decide +kernel
theorem dX9_fits_62 : decode cX9_fits 62 = .ok (.iconst (-1), 1) := by decide +kernel
theorem dX9_fits_63 : decode cX9_fits 63 = .ok (.if_icmp .eq 15, 3) := by decide +kernel
theorem dX9_fits_66 : decode cX9_fits 66 = .ok (.iload 5, 2) := by decide +kernel
theorem dX9_fits_68 : decode cX9_fits 68 = .ok (.invokestatic 292, 3) := by decide +kernel
theorem dX9_fits_71 : decode cX9_fits 71 = .ok (.iload_n 3, 1) := by decide +kernel
theorem dX9_fits_72 : decode cX9_fits 72 = .ok (.invokestatic 292, 3) := by decide +kernel
theorem dX9_fits_75 : decode cX9_fits 75 = .ok (.if_icmp .ge 6, 3) := by decide +kernel
theorem dX9_fits_78 : decode cX9_fits 78 = .ok (.iload 5, 2) := by decide +kernel
theorem dX9_fits_80 : decode cX9_fits 80 = .ok (.istore_n 3, 1) := by decide +kernel
theorem dX9_fits_81 : decode cX9_fits 81 = .ok (.iload 4, 2) := by decide +kernel
theorem dX9_fits_83 : decode cX9_fits 83 = .ok (.iconst (-1), 1) := by decide +kernel
theorem dX9_fits_84 : decode cX9_fits 84 = .ok (.if_icmp .eq 16, 3) := by decide +kernel
theorem dX9_fits_87 : decode cX9_fits 87 = .ok (.iload 5, 2) := by decide +kernel
theorem dX9_fits_89 : decode cX9_fits 89 = .ok (.invokestatic 292, 3) := by decide +kernel
theorem dX9_fits_92 : decode cX9_fits 92 = .ok (.iload 4, 2) := by decide +kernel
theorem dX9_fits_94 : decode cX9_fits 94 = .ok (.invokestatic 292, 3) := by decide +kernel
theorem dX9_fits_97 : decode cX9_fits 97 = .ok (.if_icmp .le 7, 3) := by decide +kernel
theorem dX9_fits_100 : decode cX9_fits 100 = .ok (.iload 5, 2) := by decide +kernel
theorem dX9_fits_102 : decode cX9_fits 102 = .ok (.istore 4, 2) := by decide +kernel
theorem dX9_fits_104 : decode cX9_fits 104 = .ok (.iinc 5 1, 3) := by decide +kernel
theorem dX9_fits_107 : decode cX9_fits 107 = .ok (.goto (-74), 3) := by decide +kernel
theorem dX9_fits_110 : decode cX9_fits 110 = .ok (.aload_n 0, 1) := by decide +kernel
theorem dX9_fits_111 : decode cX9_fits 111 = .ok (.iload_n 3, 1) := by decide +kernel
theorem dX9_fits_112 : decode cX9_fits 112 = .ok (.iload 4, 2) := by decide +kernel
theorem dX9_fits_114 : decode cX9_fits 114 = .ok (.invokevirtual 234, 3) := by decide +kernel
theorem dX9_fits_117 : decode cX9_fits 117 = .ok (.iload_n 2, 1) := by decide +kernel
theorem dX9_fits_118 : decode cX9_fits 118 = .ok (.ireturn, 1) := by decide +kernel
theorem dX9_leaned_0 : decode cX9_leaned 0 = .ok (.aload_n 0, 1) := by decide +kernel
theorem dX9_leaned_1 : decode cX9_leaned 1 = .ok (.getfield 34, 3) := by decide +kernel
theorem dX9_leaned_4 : decode cX9_leaned 4 = .ok (.iload_n 1, 1) := by decide +kernel
theorem dX9_leaned_5 : decode cX9_leaned 5 = .ok (.invokevirtual 117, 3) := by decide +kernel
theorem dX9_leaned_8 : decode cX9_leaned 8 = .ok (.ifCond .eq 14, 3) := by decide +kernel
theorem dX9_leaned_11 : decode cX9_leaned 11 = .ok (.aload_n 0, 1) := by decide +kernel
theorem dX9_leaned_12 : decode cX9_leaned 12 = .ok (.getfield 34, 3) := by decide +kernel
theorem dX9_leaned_15 : decode cX9_leaned 15 = .ok (.iload_n 2, 1) := by decide +kernel
theorem dX9_leaned_16 : decode cX9_leaned 16 = .ok (.invokevirtual 150, 3) := by decide +kernel
theorem dX9_leaned_19 : decode cX9_leaned 19 = .ok (.ifCond .ne 5, 3) := by decide +kernel
theorem dX9_leaned_22 : decode cX9_leaned 22 = .ok (.iconst (-1), 1) := by decide +kernel
theorem dX9_leaned_23 : decode cX9_leaned 23 = .ok (.ireturn, 1) := by decide +kernel
theorem dX9_leaned_24 : decode cX9_leaned 24 = .ok (.aload_n 0, 1) := by decide +kernel
theorem dX9_leaned_25 : decode cX9_leaned 25 = .ok (.getfield 34, 3) := by decide +kernel
theorem dX9_leaned_28 : decode cX9_leaned 28 = .ok (.iload_n 1, 1) := by decide +kernel
theorem dX9_leaned_29 : decode cX9_leaned 29 = .ok (.iload_n 2, 1) := by decide +kernel
theorem dX9_leaned_30 : decode cX9_leaned 30 = .ok (.invokevirtual 271, 3) := by decide +kernel
theorem dX9_leaned_33 : decode cX9_leaned 33 = .ok (.ireturn, 1) := by decide +kernel
theorem dX9_autumn_0 : decode cX9_autumn 0 = .ok (.iload_n 2, 1) := by decide +kernel
theorem dX9_autumn_1 : decode cX9_autumn 1 = .ok (.iconst 1, 1) := by decide +kernel
theorem dX9_autumn_2 : decode cX9_autumn 2 = .ok (.if_icmp .lt 19, 3) := by decide +kernel
theorem dX9_autumn_5 : decode cX9_autumn 5 = .ok (.iload_n 2, 1) := by decide +kernel
theorem dX9_autumn_6 : decode cX9_autumn 6 = .ok (.bipush 30, 2) := by decide +kernel
theorem dX9_autumn_8 : decode cX9_autumn 8 = .ok (.if_icmp .gt 13, 3) := by decide +kernel
theorem dX9_autumn_11 : decode cX9_autumn 11 = .ok (.iload_n 3, 1) := by decide +kernel
theorem dX9_autumn_12 : decode cX9_autumn 12 = .ok (.ifCond .lt 9, 3) := by decide +kernel
theorem dX9_autumn_15 : decode cX9_autumn 15 = .ok (.iload_n 3, 1) := by decide +kernel
theorem dX9_autumn_16 : decode cX9_autumn 16 = .ok (.bipush 10, 2) := by decide +kernel
theorem dX9_autumn_18 : decode cX9_autumn 18 = .ok (.if_icmp .le 5, 3) := by decide +kernel
theorem dX9_autumn_21 : decode cX9_autumn 21 = .ok (.iconst (-1), 1) := by decide +kernel
theorem dX9_autumn_22 : decode cX9_autumn 22 = .ok (.ireturn, 1) := by decide +kernel
theorem dX9_autumn_23 : decode cX9_autumn 23 = .ok (.iload_n 1, 1) := by decide +kernel
theorem dX9_autumn_24 : decode cX9_autumn 24 = .ok (.istore 4, 2) := by decide +kernel
theorem dX9_autumn_26 : decode cX9_autumn 26 = .ok (.aload_n 0, 1) := by decide +kernel
theorem dX9_autumn_27 : decode cX9_autumn 27 = .ok (.getfield 27, 3) := by decide +kernel
theorem dX9_autumn_30 : decode cX9_autumn 30 = .ok (.invokevirtual 143, 3) := by decide +kernel
theorem dX9_autumn_33 : decode cX9_autumn 33 = .ok (.istore 5, 2) := by decide +kernel
theorem dX9_autumn_35 : decode cX9_autumn 35 = .ok (.iconst 0, 1) := by decide +kernel
theorem dX9_autumn_36 : decode cX9_autumn 36 = .ok (.istore 6, 2) := by decide +kernel
theorem dX9_autumn_38 : decode cX9_autumn 38 = .ok (.iconst 0, 1) := by decide +kernel
theorem dX9_autumn_39 : decode cX9_autumn 39 = .ok (.istore 7, 2) := by decide +kernel
theorem dX9_autumn_41 : decode cX9_autumn 41 = .ok (.iconst (-1), 1) := by decide +kernel
theorem dX9_autumn_42 : decode cX9_autumn 42 = .ok (.istore 8, 2) := by decide +kernel
theorem dX9_autumn_44 : decode cX9_autumn 44 = .ok (.iconst 1, 1) := by decide +kernel
theorem dX9_autumn_45 : decode cX9_autumn 45 = .ok (.istore 9, 2) := by decide +kernel
theorem dX9_autumn_47 : decode cX9_autumn 47 = .ok (.iload 9, 2) := by decide +kernel
theorem dX9_autumn_49 : decode cX9_autumn 49 = .ok (.iload_n 2, 1) := by decide +kernel
theorem dX9_autumn_50 : decode cX9_autumn 50 = .ok (.if_icmp .gt 126, 3) := by decide +kernel
theorem dX9_autumn_53 : decode cX9_autumn 53 = .ok (.iload 5, 2) := by decide +kernel
theorem dX9_autumn_55 : decode cX9_autumn 55 = .ok (.iload 6, 2) := by decide +kernel
theorem dX9_autumn_57 : decode cX9_autumn 57 = .ok (.iconst (-1), 1) := by decide +kernel
theorem dX9_autumn_58 : decode cX9_autumn 58 = .ok (.ixor, 1) := by decide +kernel
theorem dX9_autumn_59 : decode cX9_autumn 59 = .ok (.iand, 1) := by decide +kernel
theorem dX9_autumn_60 : decode cX9_autumn 60 = .ok (.aload_n 0, 1) := by decide +kernel
theorem dX9_autumn_61 : decode cX9_autumn 61 = .ok (.getfield 34, 3) := by decide +kernel
theorem dX9_autumn_64 : decode cX9_autumn 64 = .ok (.bipush 9, 2) := by decide +kernel
theorem dX9_autumn_66 : decode cX9_autumn 66 = .ok (.aload_n 0, 1) := by decide +kernel
theorem dX9_autumn_67 : decode cX9_autumn 67 = .ok (.getfield 39, 3) := by decide +kernel
theorem dX9_autumn_70 : decode cX9_autumn 70 = .ok (.getfield 350, 3) := by decide +kernel
theorem dX9_autumn_73 : decode cX9_autumn 73 = .ok (.iload 9, 2) := by decide +kernel
theorem dX9_autumn_75 : decode cX9_autumn 75 = .ok (.iadd, 1) := by decide +kernel
theorem dX9_autumn_76 : decode cX9_autumn 76 = .ok (.invokestatic 418, 3) := by decide +kernel
theorem dX9_autumn_79 : decode cX9_autumn 79 = .ok (.invokevirtual 356, 3) := by decide +kernel
theorem dX9_autumn_82 : decode cX9_autumn 82 = .ok (.iand, 1) := by decide +kernel
theorem dX9_autumn_83 : decode cX9_autumn 83 = .ok (.istore 10, 2) := by decide +kernel
theorem dX9_autumn_85 : decode cX9_autumn 85 = .ok (.iconst 0, 1) := by decide +kernel
theorem dX9_autumn_86 : decode cX9_autumn 86 = .ok (.istore 11, 2) := by decide +kernel
theorem dX9_autumn_88 : decode cX9_autumn 88 = .ok (.iconst 0, 1) := by decide +kernel
theorem dX9_autumn_89 : decode cX9_autumn 89 = .ok (.istore 12, 2) := by decide +kernel
theorem dX9_autumn_91 : decode cX9_autumn 91 = .ok (.iload 12, 2) := by decide +kernel
theorem dX9_autumn_93 : decode cX9_autumn 93 = .ok (.aload_n 0, 1) := by decide +kernel
theorem dX9_autumn_94 : decode cX9_autumn 94 = .ok (.getfield 34, 3) := by decide +kernel
theorem dX9_autumn_97 : decode cX9_autumn 97 = .ok (.getfield 341, 3) := by decide +kernel
theorem dX9_autumn_100 : decode cX9_autumn 100 = .ok (.if_icmp .ge 55, 3) := by decide +kernel
theorem dX9_autumn_103 : decode cX9_autumn 103 = .ok (.iload 10, 2) := by decide +kernel
theorem dX9_autumn_105 : decode cX9_autumn 105 = .ok (.iload 12, 2) := by decide +kernel
theorem dX9_autumn_107 : decode cX9_autumn 107 = .ok (.ishr, 1) := by decide +kernel
theorem dX9_autumn_108 : decode cX9_autumn 108 = .ok (.iconst 1, 1) := by decide +kernel
theorem dX9_autumn_109 : decode cX9_autumn 109 = .ok (.iand, 1) := by decide +kernel
theorem dX9_autumn_110 : decode cX9_autumn 110 = .ok (.ifCond .eq 39, 3) := by decide +kernel
theorem dX9_autumn_113 : decode cX9_autumn 113 = .ok (.iload 4, 2) := by decide +kernel
theorem dX9_autumn_115 : decode cX9_autumn 115 = .ok (.ldc_w 421, 3) := by decide +kernel
theorem dX9_autumn_118 : decode cX9_autumn 118 = .ok (.imul, 1) := by decide +kernel
theorem dX9_autumn_119 : decode cX9_autumn 119 = .ok (.sipush 12345, 3) := by decide +kernel
theorem dX9_autumn_122 : decode cX9_autumn 122 = .ok (.iadd, 1) := by decide +kernel
theorem dX9_autumn_123 : decode cX9_autumn 123 = .ok (.istore 4, 2) := by decide +kernel
theorem dX9_autumn_125 : decode cX9_autumn 125 = .ok (.iload 4, 2) := by decide +kernel
theorem dX9_autumn_127 : decode cX9_autumn 127 = .ok (.bipush 16, 2) := by decide +kernel
theorem dX9_autumn_129 : decode cX9_autumn 129 = .ok (.iushr, 1) := by decide +kernel
theorem dX9_autumn_130 : decode cX9_autumn 130 = .ok (.bipush 10, 2) := by decide +kernel
theorem dX9_autumn_132 : decode cX9_autumn 132 = .ok (.irem, 1) := by decide +kernel
theorem dX9_autumn_133 : decode cX9_autumn 133 = .ok (.iload_n 3, 1) := by decide +kernel
theorem dX9_autumn_134 : decode cX9_autumn 134 = .ok (.if_icmp .ge 15, 3) := by decide +kernel
theorem dX9_autumn_137 : decode cX9_autumn 137 = .ok (.iload 6, 2) := by decide +kernel
theorem dX9_autumn_139 : decode cX9_autumn 139 = .ok (.iconst 1, 1) := by decide +kernel
theorem dX9_autumn_140 : decode cX9_autumn 140 = .ok (.iload 12, 2) := by decide +kernel
theorem dX9_autumn_142 : decode cX9_autumn 142 = .ok (.ishl, 1) := by decide +kernel
theorem dX9_autumn_143 : decode cX9_autumn 143 = .ok (.ior, 1) := by decide +kernel
theorem dX9_autumn_144 : decode cX9_autumn 144 = .ok (.istore 6, 2) := by decide +kernel
theorem dX9_autumn_146 : decode cX9_autumn 146 = .ok (.iinc 11 1, 3) := by decide +kernel
theorem dX9_autumn_149 : decode cX9_autumn 149 = .ok (.iinc 12 1, 3) := by decide +kernel
theorem dX9_autumn_152 : decode cX9_autumn 152 = .ok (.goto (-61), 3) := by decide +kernel
theorem dX9_autumn_155 : decode cX9_autumn 155 = .ok (.iload 11, 2) := by decide +kernel
theorem dX9_autumn_157 : decode cX9_autumn 157 = .ok (.iload 7, 2) := by decide +kernel
theorem dX9_autumn_159 : decode cX9_autumn 159 = .ok (.if_icmp .le 11, 3) := by decide +kernel
theorem dX9_autumn_162 : decode cX9_autumn 162 = .ok (.iload 11, 2) := by decide +kernel
theorem dX9_autumn_164 : decode cX9_autumn 164 = .ok (.istore 7, 2) := by decide +kernel
theorem dX9_autumn_166 : decode cX9_autumn 166 = .ok (.iload 9, 2) := by decide +kernel
theorem dX9_autumn_168 : decode cX9_autumn 168 = .ok (.istore 8, 2) := by decide +kernel
theorem dX9_autumn_170 : decode cX9_autumn 170 = .ok (.iinc 9 1, 3) := by decide +kernel
theorem dX9_autumn_173 : decode cX9_autumn 173 = .ok (.goto (-126), 3) := by decide +kernel
theorem dX9_autumn_176 : decode cX9_autumn 176 = .ok (.aload_n 0, 1) := by decide +kernel
theorem dX9_autumn_177 : decode cX9_autumn 177 = .ok (.iload 6, 2) := by decide +kernel
theorem dX9_autumn_179 : decode cX9_autumn 179 = .ok (.aload_n 0, 1) := by decide +kernel
theorem dX9_autumn_180 : decode cX9_autumn 180 = .ok (.getfield 27, 3) := by decide +kernel
theorem dX9_autumn_183 : decode cX9_autumn 183 = .ok (.iload 6, 2) := by decide +kernel
theorem dX9_autumn_185 : decode cX9_autumn 185 = .ok (.invokevirtual 257, 3) := by decide +kernel
theorem dX9_autumn_188 : decode cX9_autumn 188 = .ok (.iload 8, 2) := by decide +kernel
theorem dX9_autumn_190 : decode cX9_autumn 190 = .ok (.invokevirtual 338, 3) := by decide +kernel
theorem dX9_autumn_193 : decode cX9_autumn 193 = .ok (.iload 6, 2) := by decide +kernel
theorem dX9_autumn_195 : decode cX9_autumn 195 = .ok (.invokestatic 292, 3) := by decide +kernel
theorem dX9_autumn_198 : decode cX9_autumn 198 = .ok (.ireturn, 1) := by decide +kernel
theorem dX4_store_0 : decode cX4_store 0 = .ok (.iload_n 1, 1) := by decide +kernel
theorem dX4_store_1 : decode cX4_store 1 = .ok (.ifCond .lt 8, 3) := by decide +kernel
theorem dX4_store_4 : decode cX4_store 4 = .ok (.iload_n 1, 1) := by decide +kernel
theorem dX4_store_5 : decode cX4_store 5 = .ok (.iconst 2, 1) := by decide +kernel
theorem dX4_store_6 : decode cX4_store 6 = .ok (.if_icmp .lt 5, 3) := by decide +kernel
theorem dX4_store_9 : decode cX4_store 9 = .ok (.iconst 0, 1) := by decide +kernel
theorem dX4_store_10 : decode cX4_store 10 = .ok (.ireturn, 1) := by decide +kernel
theorem dX4_store_11 : decode cX4_store 11 = .ok (.aload_n 2, 1) := by decide +kernel
theorem dX4_store_12 : decode cX4_store 12 = .ok (.aload_n 0, 1) := by decide +kernel
theorem dX4_store_13 : decode cX4_store 13 = .ok (.getfield 15, 3) := by decide +kernel
theorem dX4_store_16 : decode cX4_store 16 = .ok (.iload_n 1, 1) := by decide +kernel
theorem dX4_store_17 : decode cX4_store 17 = .ok (.bipush 8, 2) := by decide +kernel
theorem dX4_store_19 : decode cX4_store 19 = .ok (.imul, 1) := by decide +kernel
theorem dX4_store_20 : decode cX4_store 20 = .ok (.invokevirtual 26, 3) := by decide +kernel
theorem dX4_store_23 : decode cX4_store 23 = .ok (.aload_n 0, 1) := by decide +kernel
theorem dX4_store_24 : decode cX4_store 24 = .ok (.getfield 18, 3) := by decide +kernel
theorem dX4_store_27 : decode cX4_store 27 = .ok (.iload_n 1, 1) := by decide +kernel
theorem dX4_store_28 : decode cX4_store 28 = .ok (.iconst 1, 1) := by decide +kernel
theorem dX4_store_29 : decode cX4_store 29 = .ok (.bastore, 1) := by decide +kernel
theorem dX4_store_30 : decode cX4_store 30 = .ok (.iconst 1, 1) := by decide +kernel
theorem dX4_store_31 : decode cX4_store 31 = .ok (.ireturn, 1) := by decide +kernel
theorem dX9_keep_0 : decode cX9_keep 0 = .ok (.aload_n 0, 1) := by decide +kernel
theorem dX9_keep_1 : decode cX9_keep 1 = .ok (.getfield 43, 3) := by decide +kernel
theorem dX9_keep_4 : decode cX9_keep 4 = .ok (.iload_n 1, 1) := by decide +kernel
theorem dX9_keep_5 : decode cX9_keep 5 = .ok (.aload_n 0, 1) := by decide +kernel
theorem dX9_keep_6 : decode cX9_keep 6 = .ok (.getfield 39, 3) := by decide +kernel
theorem dX9_keep_9 : decode cX9_keep 9 = .ok (.invokevirtual 422, 3) := by decide +kernel
theorem dX9_keep_12 : decode cX9_keep 12 = .ok (.ireturn, 1) := by decide +kernel
theorem dX4_fetch_0 : decode cX4_fetch 0 = .ok (.iload_n 1, 1) := by decide +kernel
theorem dX4_fetch_1 : decode cX4_fetch 1 = .ok (.ifCond .lt 17, 3) := by decide +kernel
theorem dX4_fetch_4 : decode cX4_fetch 4 = .ok (.iload_n 1, 1) := by decide +kernel
theorem dX4_fetch_5 : decode cX4_fetch 5 = .ok (.iconst 2, 1) := by decide +kernel
theorem dX4_fetch_6 : decode cX4_fetch 6 = .ok (.if_icmp .ge 12, 3) := by decide +kernel
theorem dX4_fetch_9 : decode cX4_fetch 9 = .ok (.aload_n 0, 1) := by decide +kernel
theorem dX4_fetch_10 : decode cX4_fetch 10 = .ok (.getfield 18, 3) := by decide +kernel
theorem dX4_fetch_13 : decode cX4_fetch 13 = .ok (.iload_n 1, 1) := by decide +kernel
theorem dX4_fetch_14 : decode cX4_fetch 14 = .ok (.baload, 1) := by decide +kernel
theorem dX4_fetch_15 : decode cX4_fetch 15 = .ok (.ifCond .ne 5, 3) := by decide +kernel
theorem dX4_fetch_18 : decode cX4_fetch 18 = .ok (.iconst 0, 1) := by decide +kernel
theorem dX4_fetch_19 : decode cX4_fetch 19 = .ok (.ireturn, 1) := by decide +kernel
theorem dX4_fetch_20 : decode cX4_fetch 20 = .ok (.aload_n 2, 1) := by decide +kernel
theorem dX4_fetch_21 : decode cX4_fetch 21 = .ok (.aload_n 0, 1) := by decide +kernel
theorem dX4_fetch_22 : decode cX4_fetch 22 = .ok (.getfield 15, 3) := by decide +kernel
theorem dX4_fetch_25 : decode cX4_fetch 25 = .ok (.iload_n 1, 1) := by decide +kernel
theorem dX4_fetch_26 : decode cX4_fetch 26 = .ok (.bipush 8, 2) := by decide +kernel
theorem dX4_fetch_28 : decode cX4_fetch 28 = .ok (.imul, 1) := by decide +kernel
theorem dX4_fetch_29 : decode cX4_fetch 29 = .ok (.invokevirtual 39, 3) := by decide +kernel
theorem dX4_fetch_32 : decode cX4_fetch 32 = .ok (.aload_n 0, 1) := by decide +kernel
theorem dX4_fetch_33 : decode cX4_fetch 33 = .ok (.iconst 0, 1) := by decide +kernel
theorem dX4_fetch_34 : decode cX4_fetch 34 = .ok (.putfield 30, 3) := by decide +kernel
theorem dX4_fetch_37 : decode cX4_fetch 37 = .ok (.iconst 1, 1) := by decide +kernel
theorem dX4_fetch_38 : decode cX4_fetch 38 = .ok (.ireturn, 1) := by decide +kernel
theorem dX9_again_0 : decode cX9_again 0 = .ok (.aload_n 0, 1) := by decide +kernel
theorem dX9_again_1 : decode cX9_again 1 = .ok (.getfield 43, 3) := by decide +kernel
theorem dX9_again_4 : decode cX9_again 4 = .ok (.iload_n 1, 1) := by decide +kernel
theorem dX9_again_5 : decode cX9_again 5 = .ok (.aload_n 0, 1) := by decide +kernel
theorem dX9_again_6 : decode cX9_again 6 = .ok (.getfield 39, 3) := by decide +kernel
theorem dX9_again_9 : decode cX9_again 9 = .ok (.invokevirtual 426, 3) := by decide +kernel
theorem dX9_again_12 : decode cX9_again 12 = .ok (.ireturn, 1) := by decide +kernel
theorem dX9_count_0 : decode cX9_count 0 = .ok (.iload_n 1, 1) := by decide +kernel
theorem dX9_count_1 : decode cX9_count 1 = .ok (.tableswitch 190 0 13 #[71, 79, 87, 95, 103, 111, 119, 127, 135, 143, 151, 166, 174, 182], 71) := by decide +kernel
theorem dX9_count_72 : decode cX9_count 72 = .ok (.aload_n 0, 1) := by decide +kernel
theorem dX9_count_73 : decode cX9_count 73 = .ok (.getfield 34, 3) := by decide +kernel
theorem dX9_count_76 : decode cX9_count 76 = .ok (.getfield 341, 3) := by decide +kernel
theorem dX9_count_79 : decode cX9_count 79 = .ok (.ireturn, 1) := by decide +kernel
theorem dX9_count_80 : decode cX9_count 80 = .ok (.aload_n 0, 1) := by decide +kernel
theorem dX9_count_81 : decode cX9_count 81 = .ok (.getfield 34, 3) := by decide +kernel
theorem dX9_count_84 : decode cX9_count 84 = .ok (.getfield 250, 3) := by decide +kernel
theorem dX9_count_87 : decode cX9_count 87 = .ok (.ireturn, 1) := by decide +kernel
theorem dX9_count_88 : decode cX9_count 88 = .ok (.aload_n 0, 1) := by decide +kernel
theorem dX9_count_89 : decode cX9_count 89 = .ok (.getfield 39, 3) := by decide +kernel
theorem dX9_count_92 : decode cX9_count 92 = .ok (.getfield 308, 3) := by decide +kernel
theorem dX9_count_95 : decode cX9_count 95 = .ok (.ireturn, 1) := by decide +kernel
theorem dX9_count_96 : decode cX9_count 96 = .ok (.aload_n 0, 1) := by decide +kernel
theorem dX9_count_97 : decode cX9_count 97 = .ok (.getfield 39, 3) := by decide +kernel
theorem dX9_count_100 : decode cX9_count 100 = .ok (.getfield 350, 3) := by decide +kernel
theorem dX9_count_103 : decode cX9_count 103 = .ok (.ireturn, 1) := by decide +kernel
theorem dX9_count_104 : decode cX9_count 104 = .ok (.aload_n 0, 1) := by decide +kernel
theorem dX9_count_105 : decode cX9_count 105 = .ok (.getfield 39, 3) := by decide +kernel
theorem dX9_count_108 : decode cX9_count 108 = .ok (.getfield 429, 3) := by decide +kernel
theorem dX9_count_111 : decode cX9_count 111 = .ok (.ireturn, 1) := by decide +kernel
theorem dX9_count_112 : decode cX9_count 112 = .ok (.aload_n 0, 1) := by decide +kernel
theorem dX9_count_113 : decode cX9_count 113 = .ok (.getfield 27, 3) := by decide +kernel
theorem dX9_count_116 : decode cX9_count 116 = .ok (.invokevirtual 143, 3) := by decide +kernel
theorem dX9_count_119 : decode cX9_count 119 = .ok (.ireturn, 1) := by decide +kernel
theorem dX9_count_120 : decode cX9_count 120 = .ok (.aload_n 0, 1) := by decide +kernel
theorem dX9_count_121 : decode cX9_count 121 = .ok (.getfield 39, 3) := by decide +kernel
theorem dX9_count_124 : decode cX9_count 124 = .ok (.getfield 347, 3) := by decide +kernel
theorem dX9_count_127 : decode cX9_count 127 = .ok (.ireturn, 1) := by decide +kernel
theorem dX9_count_128 : decode cX9_count 128 = .ok (.aload_n 0, 1) := by decide +kernel
theorem dX9_count_129 : decode cX9_count 129 = .ok (.getfield 39, 3) := by decide +kernel
theorem dX9_count_132 : decode cX9_count 132 = .ok (.getfield 432, 3) := by decide +kernel
theorem dX9_count_135 : decode cX9_count 135 = .ok (.ireturn, 1) := by decide +kernel
theorem dX9_count_136 : decode cX9_count 136 = .ok (.aload_n 0, 1) := by decide +kernel
theorem dX9_count_137 : decode cX9_count 137 = .ok (.getfield 39, 3) := by decide +kernel
theorem dX9_count_140 : decode cX9_count 140 = .ok (.getfield 435, 3) := by decide +kernel
theorem dX9_count_143 : decode cX9_count 143 = .ok (.ireturn, 1) := by decide +kernel
theorem dX9_count_144 : decode cX9_count 144 = .ok (.aload_n 0, 1) := by decide +kernel
theorem dX9_count_145 : decode cX9_count 145 = .ok (.getfield 39, 3) := by decide +kernel
theorem dX9_count_148 : decode cX9_count 148 = .ok (.getfield 140, 3) := by decide +kernel
theorem dX9_count_151 : decode cX9_count 151 = .ok (.ireturn, 1) := by decide +kernel
theorem dX9_count_152 : decode cX9_count 152 = .ok (.aload_n 0, 1) := by decide +kernel
theorem dX9_count_153 : decode cX9_count 153 = .ok (.getfield 27, 3) := by decide +kernel
theorem dX9_count_156 : decode cX9_count 156 = .ok (.aload_n 0, 1) := by decide +kernel
theorem dX9_count_157 : decode cX9_count 157 = .ok (.getfield 39, 3) := by decide +kernel
theorem dX9_count_160 : decode cX9_count 160 = .ok (.getfield 432, 3) := by decide +kernel
theorem dX9_count_163 : decode cX9_count 163 = .ok (.invokevirtual 257, 3) := by decide +kernel
theorem dX9_count_166 : decode cX9_count 166 = .ok (.ireturn, 1) := by decide +kernel
theorem dX9_count_167 : decode cX9_count 167 = .ok (.aload_n 0, 1) := by decide +kernel
theorem dX9_count_168 : decode cX9_count 168 = .ok (.getfield 43, 3) := by decide +kernel
theorem dX9_count_171 : decode cX9_count 171 = .ok (.getfield 206, 3) := by decide +kernel
theorem dX9_count_174 : decode cX9_count 174 = .ok (.ireturn, 1) := by decide +kernel
theorem dX9_count_175 : decode cX9_count 175 = .ok (.aload_n 0, 1) := by decide +kernel
theorem dX9_count_176 : decode cX9_count 176 = .ok (.getfield 50, 3) := by decide +kernel
theorem dX9_count_179 : decode cX9_count 179 = .ok (.getfield 374, 3) := by decide +kernel
theorem dX9_count_182 : decode cX9_count 182 = .ok (.ireturn, 1) := by decide +kernel
theorem dX9_count_183 : decode cX9_count 183 = .ok (.aload_n 0, 1) := by decide +kernel
theorem dX9_count_184 : decode cX9_count 184 = .ok (.getfield 10, 3) := by decide +kernel
theorem dX9_count_187 : decode cX9_count 187 = .ok (.getfield 77, 3) := by decide +kernel
theorem dX9_count_190 : decode cX9_count 190 = .ok (.ireturn, 1) := by decide +kernel
theorem dX9_count_191 : decode cX9_count 191 = .ok (.bipush (-100), 2) := by decide +kernel
theorem dX9_count_193 : decode cX9_count 193 = .ok (.ireturn, 1) := by decide +kernel
theorem dX9_row_0 : decode cX9_row 0 = .ok (.iload_n 1, 1) := by decide +kernel
theorem dX9_row_1 : decode cX9_row 1 = .ok (.ifCond .lt 14, 3) := by decide +kernel
theorem dX9_row_4 : decode cX9_row 4 = .ok (.iload_n 1, 1) := by decide +kernel
theorem dX9_row_5 : decode cX9_row 5 = .ok (.aload_n 0, 1) := by decide +kernel
theorem dX9_row_6 : decode cX9_row 6 = .ok (.getfield 50, 3) := by decide +kernel
theorem dX9_row_9 : decode cX9_row 9 = .ok (.getfield 374, 3) := by decide +kernel
theorem dX9_row_12 : decode cX9_row 12 = .ok (.if_icmp .lt 11, 3) := by decide +kernel
theorem dX9_row_15 : decode cX9_row 15 = .ok (.new 120, 3) := by decide +kernel
theorem dX9_row_18 : decode cX9_row 18 = .ok (.dup, 1) := by decide +kernel
theorem dX9_row_19 : decode cX9_row 19 = .ok (.invokespecial 122, 3) := by decide +kernel
theorem dX9_row_22 : decode cX9_row 22 = .ok (.athrow, 1) := by decide +kernel
theorem dX9_row_23 : decode cX9_row 23 = .ok (.aload_n 0, 1) := by decide +kernel
theorem dX9_row_24 : decode cX9_row 24 = .ok (.getfield 50, 3) := by decide +kernel
theorem dX9_row_27 : decode cX9_row 27 = .ok (.getfield 438, 3) := by decide +kernel
theorem dX9_row_30 : decode cX9_row 30 = .ok (.iload_n 1, 1) := by decide +kernel
theorem dX9_row_31 : decode cX9_row 31 = .ok (.iaload, 1) := by decide +kernel
theorem dX9_row_32 : decode cX9_row 32 = .ok (.ireturn, 1) := by decide +kernel
theorem dX10_thrown_0 : decode cX10_thrown 0 = .ok (.aload_n 0, 1) := by decide +kernel
theorem dX10_thrown_1 : decode cX10_thrown 1 = .ok (.getfield 87, 3) := by decide +kernel
theorem dX10_thrown_4 : decode cX10_thrown 4 = .ok (.ireturn, 1) := by decide +kernel
theorem dX10_sign_0 : decode cX10_sign 0 = .ok (.aload_n 0, 1) := by decide +kernel
theorem dX10_sign_1 : decode cX10_sign 1 = .ok (.iconst 0, 1) := by decide +kernel
theorem dX10_sign_2 : decode cX10_sign 2 = .ok (.putfield 87, 3) := by decide +kernel
theorem dX10_sign_5 : decode cX10_sign 5 = .ok (.aload_n 0, 1) := by decide +kernel
theorem dX10_sign_6 : decode cX10_sign 6 = .ok (.getfield 104, 3) := by decide +kernel
theorem dX10_sign_9 : decode cX10_sign 9 = .ok (.iconst 4, 1) := by decide +kernel
theorem dX10_sign_10 : decode cX10_sign 10 = .ok (.iadd, 1) := by decide +kernel
theorem dX10_sign_11 : decode cX10_sign 11 = .ok (.bipush 80, 2) := by decide +kernel
theorem dX10_sign_13 : decode cX10_sign 13 = .ok (.if_icmp .le 5, 3) := by decide +kernel
theorem dX10_sign_16 : decode cX10_sign 16 = .ok (.iconst (-1), 1) := by decide +kernel
theorem dX10_sign_17 : decode cX10_sign 17 = .ok (.ireturn, 1) := by decide +kernel
theorem dX10_sign_18 : decode cX10_sign 18 = .ok (.iconst 3, 1) := by decide +kernel
theorem dX10_sign_19 : decode cX10_sign 19 = .ok (.istore_n 2, 1) := by decide +kernel
theorem dX10_sign_20 : decode cX10_sign 20 = .ok (.iload_n 2, 1) := by decide +kernel
theorem dX10_sign_21 : decode cX10_sign 21 = .ok (.ifCond .lt 32, 3) := by decide +kernel
theorem dX10_sign_24 : decode cX10_sign 24 = .ok (.aload_n 0, 1) := by decide +kernel
theorem dX10_sign_25 : decode cX10_sign 25 = .ok (.getfield 34, 3) := by decide +kernel
theorem dX10_sign_28 : decode cX10_sign 28 = .ok (.aload_n 0, 1) := by decide +kernel
theorem dX10_sign_29 : decode cX10_sign 29 = .ok (.dup, 1) := by decide +kernel
theorem dX10_sign_30 : decode cX10_sign 30 = .ok (.getfield 104, 3) := by decide +kernel
theorem dX10_sign_33 : decode cX10_sign 33 = .ok (.dup_x1, 1) := by decide +kernel
theorem dX10_sign_34 : decode cX10_sign 34 = .ok (.iconst 1, 1) := by decide +kernel
theorem dX10_sign_35 : decode cX10_sign 35 = .ok (.iadd, 1) := by decide +kernel
theorem dX10_sign_36 : decode cX10_sign 36 = .ok (.putfield 104, 3) := by decide +kernel
theorem dX10_sign_39 : decode cX10_sign 39 = .ok (.iload_n 1, 1) := by decide +kernel
theorem dX10_sign_40 : decode cX10_sign 40 = .ok (.bipush 8, 2) := by decide +kernel
theorem dX10_sign_42 : decode cX10_sign 42 = .ok (.iload_n 2, 1) := by decide +kernel
theorem dX10_sign_43 : decode cX10_sign 43 = .ok (.imul, 1) := by decide +kernel
theorem dX10_sign_44 : decode cX10_sign 44 = .ok (.ishr, 1) := by decide +kernel
theorem dX10_sign_45 : decode cX10_sign 45 = .ok (.i2b, 1) := by decide +kernel
theorem dX10_sign_46 : decode cX10_sign 46 = .ok (.bastore, 1) := by decide +kernel
theorem dX10_sign_47 : decode cX10_sign 47 = .ok (.iinc 2 (-1), 3) := by decide +kernel
theorem dX10_sign_50 : decode cX10_sign 50 = .ok (.goto (-30), 3) := by decide +kernel
theorem dX10_sign_53 : decode cX10_sign 53 = .ok (.aload_n 0, 1) := by decide +kernel
theorem dX10_sign_54 : decode cX10_sign 54 = .ok (.getfield 104, 3) := by decide +kernel
theorem dX10_sign_57 : decode cX10_sign 57 = .ok (.ireturn, 1) := by decide +kernel
theorem dX10_in_0 : decode cX10_in 0 = .ok (.iload_n 0, 1) := by decide +kernel
theorem dX10_in_1 : decode cX10_in 1 = .ok (.iload_n 1, 1) := by decide +kernel
theorem dX10_in_2 : decode cX10_in 2 = .ok (.if_icmp .lt 12, 3) := by decide +kernel
theorem dX10_in_5 : decode cX10_in 5 = .ok (.iload_n 0, 1) := by decide +kernel
theorem dX10_in_6 : decode cX10_in 6 = .ok (.iload_n 2, 1) := by decide +kernel
theorem dX10_in_7 : decode cX10_in 7 = .ok (.if_icmp .gt 7, 3) := by decide +kernel
theorem dX10_in_10 : decode cX10_in 10 = .ok (.iconst 1, 1) := by decide +kernel
theorem dX10_in_11 : decode cX10_in 11 = .ok (.goto 4, 3) := by decide +kernel
theorem dX10_in_14 : decode cX10_in 14 = .ok (.iconst 0, 1) := by decide +kernel
theorem dX10_in_15 : decode cX10_in 15 = .ok (.ireturn, 1) := by decide +kernel
theorem dX10_end_0 : decode cX10_end 0 = .ok (.aload_n 0, 1) := by decide +kernel
theorem dX10_end_1 : decode cX10_end 1 = .ok (.iconst 0, 1) := by decide +kernel
theorem dX10_end_2 : decode cX10_end 2 = .ok (.putfield 87, 3) := by decide +kernel
theorem dX10_end_5 : decode cX10_end 5 = .ok (.iload_n 1, 1) := by decide +kernel
theorem dX10_end_6 : decode cX10_end 6 = .ok (.iconst 0, 1) := by decide +kernel
theorem dX10_end_7 : decode cX10_end 7 = .ok (.aload_n 0, 1) := by decide +kernel
theorem dX10_end_8 : decode cX10_end 8 = .ok (.getfield 104, 3) := by decide +kernel
theorem dX10_end_11 : decode cX10_end 11 = .ok (.invokestatic 97, 3) := by decide +kernel
theorem dX10_end_14 : decode cX10_end 14 = .ok (.ifCond .ne 5, 3) := by decide +kernel
theorem dX10_end_17 : decode cX10_end 17 = .ok (.iconst 0, 1) := by decide +kernel
theorem dX10_end_18 : decode cX10_end 18 = .ok (.ireturn, 1) := by decide +kernel
theorem dX10_end_19 : decode cX10_end 19 = .ok (.aload_n 0, 1) := by decide +kernel
theorem dX10_end_20 : decode cX10_end 20 = .ok (.iload_n 1, 1) := by decide +kernel
theorem dX10_end_21 : decode cX10_end 21 = .ok (.putfield 104, 3) := by decide +kernel
theorem dX10_end_24 : decode cX10_end 24 = .ok (.iconst 1, 1) := by decide +kernel
theorem dX10_end_25 : decode cX10_end 25 = .ok (.ireturn, 1) := by decide +kernel
theorem dX10_begin_0 : decode cX10_begin 0 = .ok (.aload_n 0, 1) := by decide +kernel
theorem dX10_begin_1 : decode cX10_begin 1 = .ok (.aload_n 1, 1) := by decide +kernel
theorem dX10_begin_2 : decode cX10_begin 2 = .ok (.putfield 107, 3) := by decide +kernel
theorem dX10_begin_5 : decode cX10_begin 5 = .ok (.aload_n 0, 1) := by decide +kernel
theorem dX10_begin_6 : decode cX10_begin 6 = .ok (.iload_n 2, 1) := by decide +kernel
theorem dX10_begin_7 : decode cX10_begin 7 = .ok (.putfield 110, 3) := by decide +kernel
theorem dX10_begin_10 : decode cX10_begin 10 = .ok (.aload_n 0, 1) := by decide +kernel
theorem dX10_begin_11 : decode cX10_begin 11 = .ok (.iload_n 3, 1) := by decide +kernel
theorem dX10_begin_12 : decode cX10_begin 12 = .ok (.putfield 113, 3) := by decide +kernel
theorem dX10_begin_15 : decode cX10_begin 15 = .ok (.aload_n 0, 1) := by decide +kernel
theorem dX10_begin_16 : decode cX10_begin 16 = .ok (.iconst 0, 1) := by decide +kernel
theorem dX10_begin_17 : decode cX10_begin 17 = .ok (.putfield 116, 3) := by decide +kernel
theorem dX10_begin_20 : decode cX10_begin 20 = .ok (.aload_n 0, 1) := by decide +kernel
theorem dX10_begin_21 : decode cX10_begin 21 = .ok (.iconst (-1), 1) := by decide +kernel
theorem dX10_begin_22 : decode cX10_begin 22 = .ok (.putfield 119, 3) := by decide +kernel
theorem dX10_begin_25 : decode cX10_begin 25 = .ok (.return_, 1) := by decide +kernel
theorem dX10_fine_0 : decode cX10_fine 0 = .ok (.aload_n 0, 1) := by decide +kernel
theorem dX10_fine_1 : decode cX10_fine 1 = .ok (.getfield 119, 3) := by decide +kernel
theorem dX10_fine_4 : decode cX10_fine 4 = .ok (.iconst (-1), 1) := by decide +kernel
theorem dX10_fine_5 : decode cX10_fine 5 = .ok (.if_icmp .ne 7, 3) := by decide +kernel
theorem dX10_fine_8 : decode cX10_fine 8 = .ok (.iconst 1, 1) := by decide +kernel
theorem dX10_fine_9 : decode cX10_fine 9 = .ok (.goto 4, 3) := by decide +kernel
theorem dX10_fine_12 : decode cX10_fine 12 = .ok (.iconst 0, 1) := by decide +kernel
theorem dX10_fine_13 : decode cX10_fine 13 = .ok (.ireturn, 1) := by decide +kernel
theorem dX10_here_0 : decode cX10_here 0 = .ok (.aload_n 0, 1) := by decide +kernel
theorem dX10_here_1 : decode cX10_here 1 = .ok (.getfield 116, 3) := by decide +kernel
theorem dX10_here_4 : decode cX10_here 4 = .ok (.aload_n 0, 1) := by decide +kernel
theorem dX10_here_5 : decode cX10_here 5 = .ok (.getfield 110, 3) := by decide +kernel
theorem dX10_here_8 : decode cX10_here 8 = .ok (.if_icmp .ge 30, 3) := by decide +kernel
theorem dX10_here_11 : decode cX10_here 11 = .ok (.aload_n 0, 1) := by decide +kernel
theorem dX10_here_12 : decode cX10_here 12 = .ok (.getfield 116, 3) := by decide +kernel
theorem dX10_here_15 : decode cX10_here 15 = .ok (.aload_n 0, 1) := by decide +kernel
theorem dX10_here_16 : decode cX10_here 16 = .ok (.getfield 113, 3) := by decide +kernel
theorem dX10_here_19 : decode cX10_here 19 = .ok (.if_icmp .ge 19, 3) := by decide +kernel
theorem dX10_here_22 : decode cX10_here 22 = .ok (.aload_n 0, 1) := by decide +kernel
theorem dX10_here_23 : decode cX10_here 23 = .ok (.getfield 107, 3) := by decide +kernel
theorem dX10_here_26 : decode cX10_here 26 = .ok (.aload_n 0, 1) := by decide +kernel
theorem dX10_here_27 : decode cX10_here 27 = .ok (.getfield 116, 3) := by decide +kernel
theorem dX10_here_30 : decode cX10_here 30 = .ok (.baload, 1) := by decide +kernel
theorem dX10_here_31 : decode cX10_here 31 = .ok (.sipush 255, 3) := by decide +kernel
theorem dX10_here_34 : decode cX10_here 34 = .ok (.iand, 1) := by decide +kernel
theorem dX10_here_35 : decode cX10_here 35 = .ok (.goto 4, 3) := by decide +kernel
theorem dX10_here_38 : decode cX10_here 38 = .ok (.iconst (-1), 1) := by decide +kernel
theorem dX10_here_39 : decode cX10_here 39 = .ok (.ireturn, 1) := by decide +kernel
theorem dX10_fault_0 : decode cX10_fault 0 = .ok (.aload_n 0, 1) := by decide +kernel
theorem dX10_fault_1 : decode cX10_fault 1 = .ok (.invokevirtual 122, 3) := by decide +kernel
theorem dX10_fault_4 : decode cX10_fault 4 = .ok (.ifCond .eq 8, 3) := by decide +kernel
theorem dX10_fault_7 : decode cX10_fault 7 = .ok (.aload_n 0, 1) := by decide +kernel
theorem dX10_fault_8 : decode cX10_fault 8 = .ok (.iload_n 1, 1) := by decide +kernel
theorem dX10_fault_9 : decode cX10_fault 9 = .ok (.putfield 119, 3) := by decide +kernel
theorem dX10_fault_12 : decode cX10_fault 12 = .ok (.return_, 1) := by decide +kernel
theorem dX10_number_0 : decode cX10_number 0 = .ok (.aload_n 0, 1) := by decide +kernel
theorem dX10_number_1 : decode cX10_number 1 = .ok (.invokevirtual 122, 3) := by decide +kernel
theorem dX10_number_4 : decode cX10_number 4 = .ok (.ifCond .ne 5, 3) := by decide +kernel
theorem dX10_number_7 : decode cX10_number 7 = .ok (.iconst 0, 1) := by decide +kernel
theorem dX10_number_8 : decode cX10_number 8 = .ok (.ireturn, 1) := by decide +kernel
theorem dX10_number_9 : decode cX10_number 9 = .ok (.aload_n 0, 1) := by decide +kernel
theorem dX10_number_10 : decode cX10_number 10 = .ok (.getfield 116, 3) := by decide +kernel
theorem dX10_number_13 : decode cX10_number 13 = .ok (.istore_n 2, 1) := by decide +kernel
theorem dX10_number_14 : decode cX10_number 14 = .ok (.iconst 0, 1) := by decide +kernel
theorem dX10_number_15 : decode cX10_number 15 = .ok (.istore_n 3, 1) := by decide +kernel
theorem dX10_number_16 : decode cX10_number 16 = .ok (.aload_n 0, 1) := by decide +kernel
theorem dX10_number_17 : decode cX10_number 17 = .ok (.getfield 116, 3) := by decide +kernel
theorem dX10_number_20 : decode cX10_number 20 = .ok (.iload_n 2, 1) := by decide +kernel
theorem dX10_number_21 : decode cX10_number 21 = .ok (.iload_n 1, 1) := by decide +kernel
theorem dX10_number_22 : decode cX10_number 22 = .ok (.iadd, 1) := by decide +kernel
theorem dX10_number_23 : decode cX10_number 23 = .ok (.if_icmp .ge 43, 3) := by decide +kernel
theorem dX10_number_26 : decode cX10_number 26 = .ok (.aload_n 0, 1) := by decide +kernel
theorem dX10_number_27 : decode cX10_number 27 = .ok (.invokevirtual 126, 3) := by decide +kernel
theorem dX10_number_30 : decode cX10_number 30 = .ok (.bipush 48, 2) := by decide +kernel
theorem dX10_number_32 : decode cX10_number 32 = .ok (.bipush 57, 2) := by decide +kernel
theorem dX10_number_34 : decode cX10_number 34 = .ok (.invokestatic 97, 3) := by decide +kernel
theorem dX10_number_37 : decode cX10_number 37 = .ok (.ifCond .eq 29, 3) := by decide +kernel
theorem dX10_number_40 : decode cX10_number 40 = .ok (.bipush 10, 2) := by decide +kernel
theorem dX10_number_42 : decode cX10_number 42 = .ok (.iload_n 3, 1) := by decide +kernel
theorem dX10_number_43 : decode cX10_number 43 = .ok (.imul, 1) := by decide +kernel
theorem dX10_number_44 : decode cX10_number 44 = .ok (.aload_n 0, 1) := by decide +kernel
theorem dX10_number_45 : decode cX10_number 45 = .ok (.invokevirtual 126, 3) := by decide +kernel
theorem dX10_number_48 : decode cX10_number 48 = .ok (.iadd, 1) := by decide +kernel
theorem dX10_number_49 : decode cX10_number 49 = .ok (.bipush 48, 2) := by decide +kernel
theorem dX10_number_51 : decode cX10_number 51 = .ok (.isub, 1) := by decide +kernel
theorem dX10_number_52 : decode cX10_number 52 = .ok (.istore_n 3, 1) := by decide +kernel
theorem dX10_number_53 : decode cX10_number 53 = .ok (.aload_n 0, 1) := by decide +kernel
theorem dX10_number_54 : decode cX10_number 54 = .ok (.dup, 1) := by decide +kernel
theorem dX10_number_55 : decode cX10_number 55 = .ok (.getfield 116, 3) := by decide +kernel
theorem dX10_number_58 : decode cX10_number 58 = .ok (.iconst 1, 1) := by decide +kernel
theorem dX10_number_59 : decode cX10_number 59 = .ok (.iadd, 1) := by decide +kernel
theorem dX10_number_60 : decode cX10_number 60 = .ok (.putfield 116, 3) := by decide +kernel
theorem dX10_number_63 : decode cX10_number 63 = .ok (.goto (-47), 3) := by decide +kernel
theorem dX10_number_66 : decode cX10_number 66 = .ok (.aload_n 0, 1) := by decide +kernel
theorem dX10_number_67 : decode cX10_number 67 = .ok (.getfield 116, 3) := by decide +kernel
theorem dX10_number_70 : decode cX10_number 70 = .ok (.iload_n 2, 1) := by decide +kernel
theorem dX10_number_71 : decode cX10_number 71 = .ok (.if_icmp .ne 11, 3) := by decide +kernel
theorem dX10_number_74 : decode cX10_number 74 = .ok (.aload_n 0, 1) := by decide +kernel
theorem dX10_number_75 : decode cX10_number 75 = .ok (.aload_n 0, 1) := by decide +kernel
theorem dX10_number_76 : decode cX10_number 76 = .ok (.getfield 116, 3) := by decide +kernel
theorem dX10_number_79 : decode cX10_number 79 = .ok (.invokevirtual 134, 3) := by decide +kernel
theorem dX10_number_82 : decode cX10_number 82 = .ok (.iload_n 3, 1) := by decide +kernel
theorem dX10_number_83 : decode cX10_number 83 = .ok (.ireturn, 1) := by decide +kernel
theorem dX10_passes_0 : decode cX10_passes 0 = .ok (.aload_n 0, 1) := by decide +kernel
theorem dX10_passes_1 : decode cX10_passes 1 = .ok (.invokevirtual 122, 3) := by decide +kernel
theorem dX10_passes_4 : decode cX10_passes 4 = .ok (.ifCond .eq 11, 3) := by decide +kernel
theorem dX10_passes_7 : decode cX10_passes 7 = .ok (.aload_n 0, 1) := by decide +kernel
theorem dX10_passes_8 : decode cX10_passes 8 = .ok (.invokevirtual 126, 3) := by decide +kernel
theorem dX10_passes_11 : decode cX10_passes 11 = .ok (.iload_n 1, 1) := by decide +kernel
theorem dX10_passes_12 : decode cX10_passes 12 = .ok (.if_icmp .eq 5, 3) := by decide +kernel
theorem dX10_passes_15 : decode cX10_passes 15 = .ok (.iconst 0, 1) := by decide +kernel
theorem dX10_passes_16 : decode cX10_passes 16 = .ok (.ireturn, 1) := by decide +kernel
theorem dX10_passes_17 : decode cX10_passes 17 = .ok (.aload_n 0, 1) := by decide +kernel
theorem dX10_passes_18 : decode cX10_passes 18 = .ok (.dup, 1) := by decide +kernel
theorem dX10_passes_19 : decode cX10_passes 19 = .ok (.getfield 116, 3) := by decide +kernel
theorem dX10_passes_22 : decode cX10_passes 22 = .ok (.iconst 1, 1) := by decide +kernel
theorem dX10_passes_23 : decode cX10_passes 23 = .ok (.iadd, 1) := by decide +kernel
theorem dX10_passes_24 : decode cX10_passes 24 = .ok (.putfield 116, 3) := by decide +kernel
theorem dX10_passes_27 : decode cX10_passes 27 = .ok (.iconst 1, 1) := by decide +kernel
theorem dX10_passes_28 : decode cX10_passes 28 = .ok (.ireturn, 1) := by decide +kernel
theorem dX10_need_0 : decode cX10_need 0 = .ok (.aload_n 0, 1) := by decide +kernel
theorem dX10_need_1 : decode cX10_need 1 = .ok (.iload_n 1, 1) := by decide +kernel
theorem dX10_need_2 : decode cX10_need 2 = .ok (.invokevirtual 130, 3) := by decide +kernel
theorem dX10_need_5 : decode cX10_need 5 = .ok (.ifCond .ne 11, 3) := by decide +kernel
theorem dX10_need_8 : decode cX10_need 8 = .ok (.aload_n 0, 1) := by decide +kernel
theorem dX10_need_9 : decode cX10_need 9 = .ok (.aload_n 0, 1) := by decide +kernel
theorem dX10_need_10 : decode cX10_need 10 = .ok (.getfield 116, 3) := by decide +kernel
theorem dX10_need_13 : decode cX10_need 13 = .ok (.invokevirtual 134, 3) := by decide +kernel
theorem dX10_need_16 : decode cX10_need 16 = .ok (.return_, 1) := by decide +kernel
theorem dX10_readLine_0 : decode cX10_readLine 0 = .ok (.aload_n 0, 1) := by decide +kernel
theorem dX10_readLine_1 : decode cX10_readLine 1 = .ok (.invokevirtual 126, 3) := by decide +kernel
theorem dX10_readLine_4 : decode cX10_readLine 4 = .ok (.bipush 102, 2) := by decide +kernel
theorem dX10_readLine_6 : decode cX10_readLine 6 = .ok (.if_icmp .ne 129, 3) := by decide +kernel
theorem dX10_readLine_9 : decode cX10_readLine 9 = .ok (.aload_n 0, 1) := by decide +kernel
theorem dX10_readLine_10 : decode cX10_readLine 10 = .ok (.getfield 94, 3) := by decide +kernel
theorem dX10_readLine_13 : decode cX10_readLine 13 = .ok (.aload_n 0, 1) := by decide +kernel
theorem dX10_readLine_14 : decode cX10_readLine 14 = .ok (.getfield 138, 3) := by decide +kernel
theorem dX10_readLine_17 : decode cX10_readLine 17 = .ok (.iadd, 1) := by decide +kernel
theorem dX10_readLine_18 : decode cX10_readLine 18 = .ok (.bipush 16, 2) := by decide +kernel
theorem dX10_readLine_20 : decode cX10_readLine 20 = .ok (.if_icmp .ge 115, 3) := by decide +kernel
theorem dX10_readLine_23 : decode cX10_readLine 23 = .ok (.iconst 4, 1) := by decide +kernel
theorem dX10_readLine_24 : decode cX10_readLine 24 = .ok (.aload_n 0, 1) := by decide +kernel
theorem dX10_readLine_25 : decode cX10_readLine 25 = .ok (.getfield 138, 3) := by decide +kernel
theorem dX10_readLine_28 : decode cX10_readLine 28 = .ok (.imul, 1) := by decide +kernel
theorem dX10_readLine_29 : decode cX10_readLine 29 = .ok (.istore_n 1, 1) := by decide +kernel
theorem dX10_readLine_30 : decode cX10_readLine 30 = .ok (.aload_n 0, 1) := by decide +kernel
theorem dX10_readLine_31 : decode cX10_readLine 31 = .ok (.dup, 1) := by decide +kernel
theorem dX10_readLine_32 : decode cX10_readLine 32 = .ok (.getfield 116, 3) := by decide +kernel
theorem dX10_readLine_35 : decode cX10_readLine 35 = .ok (.iconst 1, 1) := by decide +kernel
theorem dX10_readLine_36 : decode cX10_readLine 36 = .ok (.iadd, 1) := by decide +kernel
theorem dX10_readLine_37 : decode cX10_readLine 37 = .ok (.putfield 116, 3) := by decide +kernel
theorem dX10_readLine_40 : decode cX10_readLine 40 = .ok (.aload_n 0, 1) := by decide +kernel
theorem dX10_readLine_41 : decode cX10_readLine 41 = .ok (.getfield 41, 3) := by decide +kernel
theorem dX10_readLine_44 : decode cX10_readLine 44 = .ok (.iload_n 1, 1) := by decide +kernel
theorem dX10_readLine_45 : decode cX10_readLine 45 = .ok (.aload_n 0, 1) := by decide +kernel
theorem dX10_readLine_46 : decode cX10_readLine 46 = .ok (.iconst 2, 1) := by decide +kernel
theorem dX10_readLine_47 : decode cX10_readLine 47 = .ok (.invokevirtual 141, 3) := by decide +kernel
theorem dX10_readLine_50 : decode cX10_readLine 50 = .ok (.iastore, 1) := by decide +kernel
theorem dX10_readLine_51 : decode cX10_readLine 51 = .ok (.aload_n 0, 1) := by decide +kernel
theorem dX10_readLine_52 : decode cX10_readLine 52 = .ok (.bipush 44, 2) := by decide +kernel
theorem dX10_readLine_54 : decode cX10_readLine 54 = .ok (.invokevirtual 145, 3) := by decide +kernel
theorem dX10_readLine_57 : decode cX10_readLine 57 = .ok (.aload_n 0, 1) := by decide +kernel
theorem dX10_readLine_58 : decode cX10_readLine 58 = .ok (.getfield 41, 3) := by decide +kernel
theorem dX10_readLine_61 : decode cX10_readLine 61 = .ok (.iload_n 1, 1) := by decide +kernel
theorem dX10_readLine_62 : decode cX10_readLine 62 = .ok (.iconst 1, 1) := by decide +kernel
theorem dX10_readLine_63 : decode cX10_readLine 63 = .ok (.iadd, 1) := by decide +kernel
theorem dX10_readLine_64 : decode cX10_readLine 64 = .ok (.aload_n 0, 1) := by decide +kernel
theorem dX10_readLine_65 : decode cX10_readLine 65 = .ok (.iconst 2, 1) := by decide +kernel
theorem dX10_readLine_66 : decode cX10_readLine 66 = .ok (.invokevirtual 141, 3) := by decide +kernel
theorem dX10_readLine_69 : decode cX10_readLine 69 = .ok (.iastore, 1) := by decide +kernel
theorem dX10_readLine_70 : decode cX10_readLine 70 = .ok (.aload_n 0, 1) := by decide +kernel
theorem dX10_readLine_71 : decode cX10_readLine 71 = .ok (.getfield 41, 3) := by decide +kernel
theorem dX10_readLine_74 : decode cX10_readLine 74 = .ok (.iload_n 1, 1) := by decide +kernel
theorem dX10_readLine_75 : decode cX10_readLine 75 = .ok (.iconst 2, 1) := by decide +kernel
theorem dX10_readLine_76 : decode cX10_readLine 76 = .ok (.iadd, 1) := by decide +kernel
theorem dX10_readLine_77 : decode cX10_readLine 77 = .ok (.aload_n 0, 1) := by decide +kernel
theorem dX10_readLine_78 : decode cX10_readLine 78 = .ok (.bipush 42, 2) := by decide +kernel
theorem dX10_readLine_80 : decode cX10_readLine 80 = .ok (.invokevirtual 130, 3) := by decide +kernel
theorem dX10_readLine_83 : decode cX10_readLine 83 = .ok (.ifCond .eq 11, 3) := by decide +kernel
theorem dX10_readLine_86 : decode cX10_readLine 86 = .ok (.aload_n 0, 1) := by decide +kernel
theorem dX10_readLine_87 : decode cX10_readLine 87 = .ok (.iconst 1, 1) := by decide +kernel
theorem dX10_readLine_88 : decode cX10_readLine 88 = .ok (.invokevirtual 141, 3) := by decide +kernel
theorem dX10_readLine_91 : decode cX10_readLine 91 = .ok (.goto 4, 3) := by decide +kernel
theorem dX10_readLine_94 : decode cX10_readLine 94 = .ok (.iconst 1, 1) := by decide +kernel
theorem dX10_readLine_95 : decode cX10_readLine 95 = .ok (.iastore, 1) := by decide +kernel
theorem dX10_readLine_96 : decode cX10_readLine 96 = .ok (.aload_n 0, 1) := by decide +kernel
theorem dX10_readLine_97 : decode cX10_readLine 97 = .ok (.getfield 41, 3) := by decide +kernel
theorem dX10_readLine_100 : decode cX10_readLine 100 = .ok (.iload_n 1, 1) := by decide +kernel
theorem dX10_readLine_101 : decode cX10_readLine 101 = .ok (.iconst 3, 1) := by decide +kernel
theorem dX10_readLine_102 : decode cX10_readLine 102 = .ok (.iadd, 1) := by decide +kernel
theorem dX10_readLine_103 : decode cX10_readLine 103 = .ok (.aload_n 0, 1) := by decide +kernel
theorem dX10_readLine_104 : decode cX10_readLine 104 = .ok (.bipush 64, 2) := by decide +kernel
theorem dX10_readLine_106 : decode cX10_readLine 106 = .ok (.invokevirtual 130, 3) := by decide +kernel
theorem dX10_readLine_109 : decode cX10_readLine 109 = .ok (.ifCond .eq 11, 3) := by decide +kernel
theorem dX10_readLine_112 : decode cX10_readLine 112 = .ok (.aload_n 0, 1) := by decide +kernel
theorem dX10_readLine_113 : decode cX10_readLine 113 = .ok (.iconst 1, 1) := by decide +kernel
theorem dX10_readLine_114 : decode cX10_readLine 114 = .ok (.invokevirtual 141, 3) := by decide +kernel
theorem dX10_readLine_117 : decode cX10_readLine 117 = .ok (.goto 4, 3) := by decide +kernel
theorem dX10_readLine_120 : decode cX10_readLine 120 = .ok (.iconst 0, 1) := by decide +kernel
theorem dX10_readLine_121 : decode cX10_readLine 121 = .ok (.iastore, 1) := by decide +kernel
theorem dX10_readLine_122 : decode cX10_readLine 122 = .ok (.aload_n 0, 1) := by decide +kernel
theorem dX10_readLine_123 : decode cX10_readLine 123 = .ok (.dup, 1) := by decide +kernel
theorem dX10_readLine_124 : decode cX10_readLine 124 = .ok (.getfield 138, 3) := by decide +kernel
theorem dX10_readLine_127 : decode cX10_readLine 127 = .ok (.iconst 1, 1) := by decide +kernel
theorem dX10_readLine_128 : decode cX10_readLine 128 = .ok (.iadd, 1) := by decide +kernel
theorem dX10_readLine_129 : decode cX10_readLine 129 = .ok (.putfield 138, 3) := by decide +kernel
theorem dX10_readLine_132 : decode cX10_readLine 132 = .ok (.goto 94, 3) := by decide +kernel
theorem dX10_readLine_135 : decode cX10_readLine 135 = .ok (.aload_n 0, 1) := by decide +kernel
theorem dX10_readLine_136 : decode cX10_readLine 136 = .ok (.invokevirtual 126, 3) := by decide +kernel
theorem dX10_readLine_139 : decode cX10_readLine 139 = .ok (.bipush 115, 2) := by decide +kernel
theorem dX10_readLine_141 : decode cX10_readLine 141 = .ok (.if_icmp .ne 77, 3) := by decide +kernel
theorem dX10_readLine_144 : decode cX10_readLine 144 = .ok (.aload_n 0, 1) := by decide +kernel
theorem dX10_readLine_145 : decode cX10_readLine 145 = .ok (.getfield 101, 3) := by decide +kernel
theorem dX10_readLine_148 : decode cX10_readLine 148 = .ok (.aload_n 0, 1) := by decide +kernel
theorem dX10_readLine_149 : decode cX10_readLine 149 = .ok (.getfield 149, 3) := by decide +kernel
theorem dX10_readLine_152 : decode cX10_readLine 152 = .ok (.iadd, 1) := by decide +kernel
theorem dX10_readLine_153 : decode cX10_readLine 153 = .ok (.bipush 8, 2) := by decide +kernel
theorem dX10_readLine_155 : decode cX10_readLine 155 = .ok (.if_icmp .ge 63, 3) := by decide +kernel
theorem dX10_readLine_158 : decode cX10_readLine 158 = .ok (.iconst 2, 1) := by decide +kernel
theorem dX10_readLine_159 : decode cX10_readLine 159 = .ok (.aload_n 0, 1) := by decide +kernel
theorem dX10_readLine_160 : decode cX10_readLine 160 = .ok (.getfield 149, 3) := by decide +kernel
theorem dX10_readLine_163 : decode cX10_readLine 163 = .ok (.imul, 1) := by decide +kernel
theorem dX10_readLine_164 : decode cX10_readLine 164 = .ok (.istore_n 1, 1) := by decide +kernel
theorem dX10_readLine_165 : decode cX10_readLine 165 = .ok (.aload_n 0, 1) := by decide +kernel
theorem dX10_readLine_166 : decode cX10_readLine 166 = .ok (.dup, 1) := by decide +kernel
theorem dX10_readLine_167 : decode cX10_readLine 167 = .ok (.getfield 116, 3) := by decide +kernel
theorem dX10_readLine_170 : decode cX10_readLine 170 = .ok (.iconst 1, 1) := by decide +kernel
theorem dX10_readLine_171 : decode cX10_readLine 171 = .ok (.iadd, 1) := by decide +kernel
theorem dX10_readLine_172 : decode cX10_readLine 172 = .ok (.putfield 116, 3) := by decide +kernel
theorem dX10_readLine_175 : decode cX10_readLine 175 = .ok (.aload_n 0, 1) := by decide +kernel
theorem dX10_readLine_176 : decode cX10_readLine 176 = .ok (.getfield 44, 3) := by decide +kernel
theorem dX10_readLine_179 : decode cX10_readLine 179 = .ok (.iload_n 1, 1) := by decide +kernel
theorem dX10_readLine_180 : decode cX10_readLine 180 = .ok (.aload_n 0, 1) := by decide +kernel
theorem dX10_readLine_181 : decode cX10_readLine 181 = .ok (.iconst 2, 1) := by decide +kernel
theorem dX10_readLine_182 : decode cX10_readLine 182 = .ok (.invokevirtual 141, 3) := by decide +kernel
theorem dX10_readLine_185 : decode cX10_readLine 185 = .ok (.iastore, 1) := by decide +kernel
theorem dX10_readLine_186 : decode cX10_readLine 186 = .ok (.aload_n 0, 1) := by decide +kernel
theorem dX10_readLine_187 : decode cX10_readLine 187 = .ok (.bipush 44, 2) := by decide +kernel
theorem dX10_readLine_189 : decode cX10_readLine 189 = .ok (.invokevirtual 145, 3) := by decide +kernel
theorem dX10_readLine_192 : decode cX10_readLine 192 = .ok (.aload_n 0, 1) := by decide +kernel
theorem dX10_readLine_193 : decode cX10_readLine 193 = .ok (.getfield 44, 3) := by decide +kernel
theorem dX10_readLine_196 : decode cX10_readLine 196 = .ok (.iload_n 1, 1) := by decide +kernel
theorem dX10_readLine_197 : decode cX10_readLine 197 = .ok (.iconst 1, 1) := by decide +kernel
theorem dX10_readLine_198 : decode cX10_readLine 198 = .ok (.iadd, 1) := by decide +kernel
theorem dX10_readLine_199 : decode cX10_readLine 199 = .ok (.aload_n 0, 1) := by decide +kernel
theorem dX10_readLine_200 : decode cX10_readLine 200 = .ok (.iconst 2, 1) := by decide +kernel
theorem dX10_readLine_201 : decode cX10_readLine 201 = .ok (.invokevirtual 141, 3) := by decide +kernel
theorem dX10_readLine_204 : decode cX10_readLine 204 = .ok (.iastore, 1) := by decide +kernel
theorem dX10_readLine_205 : decode cX10_readLine 205 = .ok (.aload_n 0, 1) := by decide +kernel
theorem dX10_readLine_206 : decode cX10_readLine 206 = .ok (.dup, 1) := by decide +kernel
