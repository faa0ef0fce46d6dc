theorem dX9_trips_11 : decode cX9_trips 11 = .ok (.iconst (-1), 1) := by decide +kernel
theorem dX9_trips_12 : decode cX9_trips 12 = .ok (.ireturn, 1) := by decide +kernel
theorem dX9_trips_13 : decode cX9_trips 13 = .ok (.aload_n 0, 1) := by decide +kernel
theorem dX9_trips_14 : decode cX9_trips 14 = .ok (.getfield 19, 3) := by decide +kernel
theorem dX9_trips_17 : decode cX9_trips 17 = .ok (.invokevirtual 265, 3) := by decide +kernel
theorem dX9_trips_20 : decode cX9_trips 20 = .ok (.aload_n 0, 1) := by decide +kernel
theorem dX9_trips_21 : decode cX9_trips 21 = .ok (.getfield 39, 3) := by decide +kernel
theorem dX9_trips_24 : decode cX9_trips 24 = .ok (.getfield 308, 3) := by decide +kernel
theorem dX9_trips_27 : decode cX9_trips 27 = .ok (.iload_n 1, 1) := by decide +kernel
theorem dX9_trips_28 : decode cX9_trips 28 = .ok (.if_icmp .ne 16, 3) := by decide +kernel
theorem dX9_trips_31 : decode cX9_trips 31 = .ok (.aload_n 0, 1) := by decide +kernel
theorem dX9_trips_32 : decode cX9_trips 32 = .ok (.getfield 39, 3) := by decide +kernel
theorem dX9_trips_35 : decode cX9_trips 35 = .ok (.getfield 347, 3) := by decide +kernel
theorem dX9_trips_38 : decode cX9_trips 38 = .ok (.invokestatic 292, 3) := by decide +kernel
theorem dX9_trips_41 : decode cX9_trips 41 = .ok (.goto 4, 3) := by decide +kernel
theorem dX9_trips_44 : decode cX9_trips 44 = .ok (.iconst 0, 1) := by decide +kernel
theorem dX9_trips_45 : decode cX9_trips 45 = .ok (.istore_n 2, 1) := by decide +kernel
theorem dX9_trips_46 : decode cX9_trips 46 = .ok (.iconst 0, 1) := by decide +kernel
theorem dX9_trips_47 : decode cX9_trips 47 = .ok (.istore_n 3, 1) := by decide +kernel
theorem dX9_trips_48 : decode cX9_trips 48 = .ok (.aload_n 0, 1) := by decide +kernel
theorem dX9_trips_49 : decode cX9_trips 49 = .ok (.getfield 19, 3) := by decide +kernel
theorem dX9_trips_52 : decode cX9_trips 52 = .ok (.iload_n 1, 1) := by decide +kernel
theorem dX9_trips_53 : decode cX9_trips 53 = .ok (.invokevirtual 268, 3) := by decide +kernel
theorem dX9_trips_56 : decode cX9_trips 56 = .ok (.invokestatic 292, 3) := by decide +kernel
theorem dX9_trips_59 : decode cX9_trips 59 = .ok (.istore 4, 2) := by decide +kernel
theorem dX9_trips_61 : decode cX9_trips 61 = .ok (.iconst 0, 1) := by decide +kernel
theorem dX9_trips_62 : decode cX9_trips 62 = .ok (.istore 5, 2) := by decide +kernel
theorem dX9_trips_64 : decode cX9_trips 64 = .ok (.iload 5, 2) := by decide +kernel
theorem dX9_trips_66 : decode cX9_trips 66 = .ok (.iload 4, 2) := by decide +kernel
theorem dX9_trips_68 : decode cX9_trips 68 = .ok (.if_icmp .ge 30, 3) := by decide +kernel
theorem dX9_trips_71 : decode cX9_trips 71 = .ok (.iload_n 2, 1) := by decide +kernel
theorem dX9_trips_72 : decode cX9_trips 72 = .ok (.aload_n 0, 1) := by decide +kernel
theorem dX9_trips_73 : decode cX9_trips 73 = .ok (.getfield 34, 3) := by decide +kernel
theorem dX9_trips_76 : decode cX9_trips 76 = .ok (.getfield 168, 3) := by decide +kernel
theorem dX9_trips_79 : decode cX9_trips 79 = .ok (.iconst 4, 1) := by decide +kernel
theorem dX9_trips_80 : decode cX9_trips 80 = .ok (.iaload, 1) := by decide +kernel
theorem dX9_trips_81 : decode cX9_trips 81 = .ok (.if_icmp .lt 8, 3) := by decide +kernel
theorem dX9_trips_84 : decode cX9_trips 84 = .ok (.iinc 3 1, 3) := by decide +kernel
theorem dX9_trips_87 : decode cX9_trips 87 = .ok (.iconst 0, 1) := by decide +kernel
theorem dX9_trips_88 : decode cX9_trips 88 = .ok (.istore_n 2, 1) := by decide +kernel
theorem dX9_trips_89 : decode cX9_trips 89 = .ok (.iinc 2 1, 3) := by decide +kernel
theorem dX9_trips_92 : decode cX9_trips 92 = .ok (.iinc 5 1, 3) := by decide +kernel
theorem dX9_trips_95 : decode cX9_trips 95 = .ok (.goto (-31), 3) := by decide +kernel
theorem dX9_trips_98 : decode cX9_trips 98 = .ok (.aload_n 0, 1) := by decide +kernel
theorem dX9_trips_99 : decode cX9_trips 99 = .ok (.iload_n 2, 1) := by decide +kernel
theorem dX9_trips_100 : decode cX9_trips 100 = .ok (.invokevirtual 260, 3) := by decide +kernel
theorem dX9_trips_103 : decode cX9_trips 103 = .ok (.iload_n 3, 1) := by decide +kernel
theorem dX9_trips_104 : decode cX9_trips 104 = .ok (.ireturn, 1) := by decide +kernel
theorem dX9_helps_0 : decode cX9_helps 0 = .ok (.aload_n 0, 1) := by decide +kernel
theorem dX9_helps_1 : decode cX9_helps 1 = .ok (.getfield 19, 3) := by decide +kernel
theorem dX9_helps_4 : decode cX9_helps 4 = .ok (.iconst 0, 1) := by decide +kernel
theorem dX9_helps_5 : decode cX9_helps 5 = .ok (.aload_n 0, 1) := by decide +kernel
theorem dX9_helps_6 : decode cX9_helps 6 = .ok (.getfield 39, 3) := by decide +kernel
theorem dX9_helps_9 : decode cX9_helps 9 = .ok (.getfield 350, 3) := by decide +kernel
theorem dX9_helps_12 : decode cX9_helps 12 = .ok (.invokevirtual 353, 3) := by decide +kernel
theorem dX9_helps_15 : decode cX9_helps 15 = .ok (.aload_n 0, 1) := by decide +kernel
theorem dX9_helps_16 : decode cX9_helps 16 = .ok (.getfield 19, 3) := by decide +kernel
theorem dX9_helps_19 : decode cX9_helps 19 = .ok (.getfield 274, 3) := by decide +kernel
theorem dX9_helps_22 : decode cX9_helps 22 = .ok (.istore_n 1, 1) := by decide +kernel
theorem dX9_helps_23 : decode cX9_helps 23 = .ok (.aload_n 0, 1) := by decide +kernel
theorem dX9_helps_24 : decode cX9_helps 24 = .ok (.getfield 19, 3) := by decide +kernel
theorem dX9_helps_27 : decode cX9_helps 27 = .ok (.iload_n 1, 1) := by decide +kernel
theorem dX9_helps_28 : decode cX9_helps 28 = .ok (.aload_n 0, 1) := by decide +kernel
theorem dX9_helps_29 : decode cX9_helps 29 = .ok (.getfield 34, 3) := by decide +kernel
theorem dX9_helps_32 : decode cX9_helps 32 = .ok (.invokevirtual 277, 3) := by decide +kernel
theorem dX9_helps_35 : decode cX9_helps 35 = .ok (.invokevirtual 280, 3) := by decide +kernel
theorem dX9_helps_38 : decode cX9_helps 38 = .ok (.istore_n 2, 1) := by decide +kernel
theorem dX9_helps_39 : decode cX9_helps 39 = .ok (.aload_n 0, 1) := by decide +kernel
theorem dX9_helps_40 : decode cX9_helps 40 = .ok (.getfield 19, 3) := by decide +kernel
theorem dX9_helps_43 : decode cX9_helps 43 = .ok (.iconst 1, 1) := by decide +kernel
theorem dX9_helps_44 : decode cX9_helps 44 = .ok (.aload_n 0, 1) := by decide +kernel
theorem dX9_helps_45 : decode cX9_helps 45 = .ok (.getfield 39, 3) := by decide +kernel
theorem dX9_helps_48 : decode cX9_helps 48 = .ok (.getfield 350, 3) := by decide +kernel
theorem dX9_helps_51 : decode cX9_helps 51 = .ok (.invokevirtual 353, 3) := by decide +kernel
theorem dX9_helps_54 : decode cX9_helps 54 = .ok (.aload_n 0, 1) := by decide +kernel
theorem dX9_helps_55 : decode cX9_helps 55 = .ok (.getfield 19, 3) := by decide +kernel
theorem dX9_helps_58 : decode cX9_helps 58 = .ok (.aload_n 0, 1) := by decide +kernel
theorem dX9_helps_59 : decode cX9_helps 59 = .ok (.getfield 19, 3) := by decide +kernel
theorem dX9_helps_62 : decode cX9_helps 62 = .ok (.getfield 274, 3) := by decide +kernel
theorem dX9_helps_65 : decode cX9_helps 65 = .ok (.aload_n 0, 1) := by decide +kernel
theorem dX9_helps_66 : decode cX9_helps 66 = .ok (.getfield 34, 3) := by decide +kernel
theorem dX9_helps_69 : decode cX9_helps 69 = .ok (.invokevirtual 277, 3) := by decide +kernel
theorem dX9_helps_72 : decode cX9_helps 72 = .ok (.invokevirtual 280, 3) := by decide +kernel
theorem dX9_helps_75 : decode cX9_helps 75 = .ok (.istore_n 3, 1) := by decide +kernel
theorem dX9_helps_76 : decode cX9_helps 76 = .ok (.aload_n 0, 1) := by decide +kernel
theorem dX9_helps_77 : decode cX9_helps 77 = .ok (.iload_n 1, 1) := by decide +kernel
theorem dX9_helps_78 : decode cX9_helps 78 = .ok (.invokestatic 292, 3) := by decide +kernel
theorem dX9_helps_81 : decode cX9_helps 81 = .ok (.aload_n 0, 1) := by decide +kernel
theorem dX9_helps_82 : decode cX9_helps 82 = .ok (.getfield 19, 3) := by decide +kernel
theorem dX9_helps_85 : decode cX9_helps 85 = .ok (.getfield 274, 3) := by decide +kernel
theorem dX9_helps_88 : decode cX9_helps 88 = .ok (.invokestatic 292, 3) := by decide +kernel
theorem dX9_helps_91 : decode cX9_helps 91 = .ok (.invokevirtual 234, 3) := by decide +kernel
theorem dX9_helps_94 : decode cX9_helps 94 = .ok (.iload_n 2, 1) := by decide +kernel
theorem dX9_helps_95 : decode cX9_helps 95 = .ok (.invokestatic 292, 3) := by decide +kernel
theorem dX9_helps_98 : decode cX9_helps 98 = .ok (.iload_n 3, 1) := by decide +kernel
theorem dX9_helps_99 : decode cX9_helps 99 = .ok (.invokestatic 292, 3) := by decide +kernel
theorem dX9_helps_102 : decode cX9_helps 102 = .ok (.isub, 1) := by decide +kernel
theorem dX9_helps_103 : decode cX9_helps 103 = .ok (.ireturn, 1) := by decide +kernel
theorem dX9_hooked_0 : decode cX9_hooked 0 = .ok (.aload_n 0, 1) := by decide +kernel
theorem dX9_hooked_1 : decode cX9_hooked 1 = .ok (.getfield 19, 3) := by decide +kernel
theorem dX9_hooked_4 : decode cX9_hooked 4 = .ok (.invokevirtual 265, 3) := by decide +kernel
theorem dX9_hooked_7 : decode cX9_hooked 7 = .ok (.aload_n 0, 1) := by decide +kernel
theorem dX9_hooked_8 : decode cX9_hooked 8 = .ok (.getfield 27, 3) := by decide +kernel
theorem dX9_hooked_11 : decode cX9_hooked 11 = .ok (.invokevirtual 143, 3) := by decide +kernel
theorem dX9_hooked_14 : decode cX9_hooked 14 = .ok (.aload_n 0, 1) := by decide +kernel
theorem dX9_hooked_15 : decode cX9_hooked 15 = .ok (.getfield 34, 3) := by decide +kernel
theorem dX9_hooked_18 : decode cX9_hooked 18 = .ok (.aload_n 0, 1) := by decide +kernel
theorem dX9_hooked_19 : decode cX9_hooked 19 = .ok (.getfield 39, 3) := by decide +kernel
theorem dX9_hooked_22 : decode cX9_hooked 22 = .ok (.getfield 350, 3) := by decide +kernel
theorem dX9_hooked_25 : decode cX9_hooked 25 = .ok (.invokevirtual 356, 3) := by decide +kernel
theorem dX9_hooked_28 : decode cX9_hooked 28 = .ok (.iand, 1) := by decide +kernel
theorem dX9_hooked_29 : decode cX9_hooked 29 = .ok (.aload_n 0, 1) := by decide +kernel
theorem dX9_hooked_30 : decode cX9_hooked 30 = .ok (.getfield 19, 3) := by decide +kernel
theorem dX9_hooked_33 : decode cX9_hooked 33 = .ok (.getfield 274, 3) := by decide +kernel
theorem dX9_hooked_36 : decode cX9_hooked 36 = .ok (.iconst (-1), 1) := by decide +kernel
theorem dX9_hooked_37 : decode cX9_hooked 37 = .ok (.ixor, 1) := by decide +kernel
theorem dX9_hooked_38 : decode cX9_hooked 38 = .ok (.iand, 1) := by decide +kernel
theorem dX9_hooked_39 : decode cX9_hooked 39 = .ok (.istore_n 1, 1) := by decide +kernel
theorem dX9_hooked_40 : decode cX9_hooked 40 = .ok (.iconst 0, 1) := by decide +kernel
theorem dX9_hooked_41 : decode cX9_hooked 41 = .ok (.istore_n 2, 1) := by decide +kernel
theorem dX9_hooked_42 : decode cX9_hooked 42 = .ok (.iconst (-1), 1) := by decide +kernel
theorem dX9_hooked_43 : decode cX9_hooked 43 = .ok (.istore_n 3, 1) := by decide +kernel
theorem dX9_hooked_44 : decode cX9_hooked 44 = .ok (.iconst 0, 1) := by decide +kernel
theorem dX9_hooked_45 : decode cX9_hooked 45 = .ok (.istore 4, 2) := by decide +kernel
theorem dX9_hooked_47 : decode cX9_hooked 47 = .ok (.iconst 0, 1) := by decide +kernel
theorem dX9_hooked_48 : decode cX9_hooked 48 = .ok (.istore 5, 2) := by decide +kernel
theorem dX9_hooked_50 : decode cX9_hooked 50 = .ok (.iload 5, 2) := by decide +kernel
theorem dX9_hooked_52 : decode cX9_hooked 52 = .ok (.aload_n 0, 1) := by decide +kernel
theorem dX9_hooked_53 : decode cX9_hooked 53 = .ok (.getfield 34, 3) := by decide +kernel
theorem dX9_hooked_56 : decode cX9_hooked 56 = .ok (.getfield 250, 3) := by decide +kernel
theorem dX9_hooked_59 : decode cX9_hooked 59 = .ok (.if_icmp .ge 62, 3) := by decide +kernel
theorem dX9_hooked_62 : decode cX9_hooked 62 = .ok (.iload_n 1, 1) := by decide +kernel
theorem dX9_hooked_63 : decode cX9_hooked 63 = .ok (.aload_n 0, 1) := by decide +kernel
theorem dX9_hooked_64 : decode cX9_hooked 64 = .ok (.getfield 34, 3) := by decide +kernel
theorem dX9_hooked_67 : decode cX9_hooked 67 = .ok (.iload 5, 2) := by decide +kernel
theorem dX9_hooked_69 : decode cX9_hooked 69 = .ok (.aload_n 0, 1) := by decide +kernel
theorem dX9_hooked_70 : decode cX9_hooked 70 = .ok (.getfield 34, 3) := by decide +kernel
theorem dX9_hooked_73 : decode cX9_hooked 73 = .ok (.aload_n 0, 1) := by decide +kernel
theorem dX9_hooked_74 : decode cX9_hooked 74 = .ok (.getfield 39, 3) := by decide +kernel
theorem dX9_hooked_77 : decode cX9_hooked 77 = .ok (.getfield 247, 3) := by decide +kernel
theorem dX9_hooked_80 : decode cX9_hooked 80 = .ok (.iconst 1, 1) := by decide +kernel
theorem dX9_hooked_81 : decode cX9_hooked 81 = .ok (.invokevirtual 238, 3) := by decide +kernel
theorem dX9_hooked_84 : decode cX9_hooked 84 = .ok (.invokevirtual 241, 3) := by decide +kernel
theorem dX9_hooked_87 : decode cX9_hooked 87 = .ok (.iand, 1) := by decide +kernel
theorem dX9_hooked_88 : decode cX9_hooked 88 = .ok (.istore 6, 2) := by decide +kernel
theorem dX9_hooked_90 : decode cX9_hooked 90 = .ok (.iload_n 2, 1) := by decide +kernel
theorem dX9_hooked_91 : decode cX9_hooked 91 = .ok (.iload 6, 2) := by decide +kernel
theorem dX9_hooked_93 : decode cX9_hooked 93 = .ok (.ior, 1) := by decide +kernel
theorem dX9_hooked_94 : decode cX9_hooked 94 = .ok (.istore_n 2, 1) := by decide +kernel
theorem dX9_hooked_95 : decode cX9_hooked 95 = .ok (.iload 6, 2) := by decide +kernel
theorem dX9_hooked_97 : decode cX9_hooked 97 = .ok (.invokestatic 292, 3) := by decide +kernel
theorem dX9_hooked_100 : decode cX9_hooked 100 = .ok (.iload 4, 2) := by decide +kernel
theorem dX9_hooked_102 : decode cX9_hooked 102 = .ok (.if_icmp .le 13, 3) := by decide +kernel
theorem dX9_hooked_105 : decode cX9_hooked 105 = .ok (.iload 5, 2) := by decide +kernel
theorem dX9_hooked_107 : decode cX9_hooked 107 = .ok (.istore_n 3, 1) := by decide +kernel
theorem dX9_hooked_108 : decode cX9_hooked 108 = .ok (.iload 6, 2) := by decide +kernel
theorem dX9_hooked_110 : decode cX9_hooked 110 = .ok (.invokestatic 292, 3) := by decide +kernel
theorem dX9_hooked_113 : decode cX9_hooked 113 = .ok (.istore 4, 2) := by decide +kernel
theorem dX9_hooked_115 : decode cX9_hooked 115 = .ok (.iinc 5 1, 3) := by decide +kernel
theorem dX9_hooked_118 : decode cX9_hooked 118 = .ok (.goto (-68), 3) := by decide +kernel
theorem dX9_hooked_121 : decode cX9_hooked 121 = .ok (.aload_n 0, 1) := by decide +kernel
theorem dX9_hooked_122 : decode cX9_hooked 122 = .ok (.iload_n 3, 1) := by decide +kernel
theorem dX9_hooked_123 : decode cX9_hooked 123 = .ok (.iload 4, 2) := by decide +kernel
theorem dX9_hooked_125 : decode cX9_hooked 125 = .ok (.invokevirtual 234, 3) := by decide +kernel
theorem dX9_hooked_128 : decode cX9_hooked 128 = .ok (.iload_n 2, 1) := by decide +kernel
theorem dX9_hooked_129 : decode cX9_hooked 129 = .ok (.ireturn, 1) := by decide +kernel
theorem dX9_broken_0 : decode cX9_broken 0 = .ok (.aload_n 0, 1) := by decide +kernel
theorem dX9_broken_1 : decode cX9_broken 1 = .ok (.getfield 34, 3) := by decide +kernel
theorem dX9_broken_4 : decode cX9_broken 4 = .ok (.iload_n 1, 1) := by decide +kernel
theorem dX9_broken_5 : decode cX9_broken 5 = .ok (.invokevirtual 150, 3) := by decide +kernel
theorem dX9_broken_8 : decode cX9_broken 8 = .ok (.ifCond .ne 5, 3) := by decide +kernel
theorem dX9_broken_11 : decode cX9_broken 11 = .ok (.iconst (-1), 1) := by decide +kernel
theorem dX9_broken_12 : decode cX9_broken 12 = .ok (.ireturn, 1) := by decide +kernel
theorem dX9_broken_13 : decode cX9_broken 13 = .ok (.aload_n 0, 1) := by decide +kernel
theorem dX9_broken_14 : decode cX9_broken 14 = .ok (.getfield 19, 3) := by decide +kernel
theorem dX9_broken_17 : decode cX9_broken 17 = .ok (.invokevirtual 265, 3) := by decide +kernel
theorem dX9_broken_20 : decode cX9_broken 20 = .ok (.aload_n 0, 1) := by decide +kernel
theorem dX9_broken_21 : decode cX9_broken 21 = .ok (.getfield 34, 3) := by decide +kernel
theorem dX9_broken_24 : decode cX9_broken 24 = .ok (.invokevirtual 277, 3) := by decide +kernel
theorem dX9_broken_27 : decode cX9_broken 27 = .ok (.iconst 1, 1) := by decide +kernel
theorem dX9_broken_28 : decode cX9_broken 28 = .ok (.iload_n 1, 1) := by decide +kernel
theorem dX9_broken_29 : decode cX9_broken 29 = .ok (.ishl, 1) := by decide +kernel
theorem dX9_broken_30 : decode cX9_broken 30 = .ok (.iconst (-1), 1) := by decide +kernel
theorem dX9_broken_31 : decode cX9_broken 31 = .ok (.ixor, 1) := by decide +kernel
theorem dX9_broken_32 : decode cX9_broken 32 = .ok (.iand, 1) := by decide +kernel
theorem dX9_broken_33 : decode cX9_broken 33 = .ok (.istore_n 2, 1) := by decide +kernel
theorem dX9_broken_34 : decode cX9_broken 34 = .ok (.aload_n 0, 1) := by decide +kernel
theorem dX9_broken_35 : decode cX9_broken 35 = .ok (.getfield 19, 3) := by decide +kernel
theorem dX9_broken_38 : decode cX9_broken 38 = .ok (.getfield 274, 3) := by decide +kernel
theorem dX9_broken_41 : decode cX9_broken 41 = .ok (.aload_n 0, 1) := by decide +kernel
theorem dX9_broken_42 : decode cX9_broken 42 = .ok (.getfield 19, 3) := by decide +kernel
theorem dX9_broken_45 : decode cX9_broken 45 = .ok (.iload_n 2, 1) := by decide +kernel
theorem dX9_broken_46 : decode cX9_broken 46 = .ok (.invokevirtual 286, 3) := by decide +kernel
theorem dX9_broken_49 : decode cX9_broken 49 = .ok (.iconst (-1), 1) := by decide +kernel
theorem dX9_broken_50 : decode cX9_broken 50 = .ok (.ixor, 1) := by decide +kernel
theorem dX9_broken_51 : decode cX9_broken 51 = .ok (.iand, 1) := by decide +kernel
theorem dX9_broken_52 : decode cX9_broken 52 = .ok (.istore_n 3, 1) := by decide +kernel
theorem dX9_broken_53 : decode cX9_broken 53 = .ok (.aload_n 0, 1) := by decide +kernel
theorem dX9_broken_54 : decode cX9_broken 54 = .ok (.iload_n 3, 1) := by decide +kernel
theorem dX9_broken_55 : decode cX9_broken 55 = .ok (.invokevirtual 260, 3) := by decide +kernel
theorem dX9_broken_58 : decode cX9_broken 58 = .ok (.aload_n 0, 1) := by decide +kernel
theorem dX9_broken_59 : decode cX9_broken 59 = .ok (.getfield 19, 3) := by decide +kernel
theorem dX9_broken_62 : decode cX9_broken 62 = .ok (.aload_n 0, 1) := by decide +kernel
theorem dX9_broken_63 : decode cX9_broken 63 = .ok (.getfield 19, 3) := by decide +kernel
theorem dX9_broken_66 : decode cX9_broken 66 = .ok (.getfield 274, 3) := by decide +kernel
theorem dX9_broken_69 : decode cX9_broken 69 = .ok (.iload_n 3, 1) := by decide +kernel
theorem dX9_broken_70 : decode cX9_broken 70 = .ok (.iconst (-1), 1) := by decide +kernel
theorem dX9_broken_71 : decode cX9_broken 71 = .ok (.ixor, 1) := by decide +kernel
theorem dX9_broken_72 : decode cX9_broken 72 = .ok (.iand, 1) := by decide +kernel
theorem dX9_broken_73 : decode cX9_broken 73 = .ok (.iload_n 2, 1) := by decide +kernel
theorem dX9_broken_74 : decode cX9_broken 74 = .ok (.invokevirtual 280, 3) := by decide +kernel
theorem dX9_broken_77 : decode cX9_broken 77 = .ok (.invokestatic 292, 3) := by decide +kernel
theorem dX9_broken_80 : decode cX9_broken 80 = .ok (.ireturn, 1) := by decide +kernel
theorem dX9_sweep_0 : decode cX9_sweep 0 = .ok (.iload_n 1, 1) := by decide +kernel
theorem dX9_sweep_1 : decode cX9_sweep 1 = .ok (.ifCond .lt 10, 3) := by decide +kernel
theorem dX9_sweep_4 : decode cX9_sweep 4 = .ok (.iload_n 1, 1) := by decide +kernel
theorem dX9_sweep_5 : decode cX9_sweep 5 = .ok (.sipush 9999, 3) := by decide +kernel
theorem dX9_sweep_8 : decode cX9_sweep 8 = .ok (.if_icmp .le 5, 3) := by decide +kernel
theorem dX9_sweep_11 : decode cX9_sweep 11 = .ok (.iconst (-1), 1) := by decide +kernel
theorem dX9_sweep_12 : decode cX9_sweep 12 = .ok (.ireturn, 1) := by decide +kernel
theorem dX9_sweep_13 : decode cX9_sweep 13 = .ok (.aload_n 0, 1) := by decide +kernel
theorem dX9_sweep_14 : decode cX9_sweep 14 = .ok (.getfield 19, 3) := by decide +kernel
theorem dX9_sweep_17 : decode cX9_sweep 17 = .ok (.invokevirtual 265, 3) := by decide +kernel
theorem dX9_sweep_20 : decode cX9_sweep 20 = .ok (.aload_n 0, 1) := by decide +kernel
theorem dX9_sweep_21 : decode cX9_sweep 21 = .ok (.getfield 19, 3) := by decide +kernel
theorem dX9_sweep_24 : decode cX9_sweep 24 = .ok (.invokevirtual 323, 3) := by decide +kernel
theorem dX9_sweep_27 : decode cX9_sweep 27 = .ok (.iconst 0, 1) := by decide +kernel
theorem dX9_sweep_28 : decode cX9_sweep 28 = .ok (.istore_n 2, 1) := by decide +kernel
theorem dX9_sweep_29 : decode cX9_sweep 29 = .ok (.iconst 0, 1) := by decide +kernel
theorem dX9_sweep_30 : decode cX9_sweep 30 = .ok (.istore_n 3, 1) := by decide +kernel
theorem dX9_sweep_31 : decode cX9_sweep 31 = .ok (.iconst 0, 1) := by decide +kernel
theorem dX9_sweep_32 : decode cX9_sweep 32 = .ok (.istore 4, 2) := by decide +kernel
theorem dX9_sweep_34 : decode cX9_sweep 34 = .ok (.iconst 1, 1) := by decide +kernel
theorem dX9_sweep_35 : decode cX9_sweep 35 = .ok (.istore 5, 2) := by decide +kernel
theorem dX9_sweep_37 : decode cX9_sweep 37 = .ok (.iload 5, 2) := by decide +kernel
theorem dX9_sweep_39 : decode cX9_sweep 39 = .ok (.aload_n 0, 1) := by decide +kernel
theorem dX9_sweep_40 : decode cX9_sweep 40 = .ok (.getfield 34, 3) := by decide +kernel
theorem dX9_sweep_43 : decode cX9_sweep 43 = .ok (.invokevirtual 277, 3) := by decide +kernel
theorem dX9_sweep_46 : decode cX9_sweep 46 = .ok (.if_icmp .gt 81, 3) := by decide +kernel
theorem dX9_sweep_49 : decode cX9_sweep 49 = .ok (.aload_n 0, 1) := by decide +kernel
theorem dX9_sweep_50 : decode cX9_sweep 50 = .ok (.getfield 27, 3) := by decide +kernel
theorem dX9_sweep_53 : decode cX9_sweep 53 = .ok (.aload_n 0, 1) := by decide +kernel
theorem dX9_sweep_54 : decode cX9_sweep 54 = .ok (.getfield 19, 3) := by decide +kernel
theorem dX9_sweep_57 : decode cX9_sweep 57 = .ok (.getfield 274, 3) := by decide +kernel
theorem dX9_sweep_60 : decode cX9_sweep 60 = .ok (.aload_n 0, 1) := by decide +kernel
theorem dX9_sweep_61 : decode cX9_sweep 61 = .ok (.getfield 19, 3) := by decide +kernel
theorem dX9_sweep_64 : decode cX9_sweep 64 = .ok (.iload 5, 2) := by decide +kernel
theorem dX9_sweep_66 : decode cX9_sweep 66 = .ok (.invokevirtual 286, 3) := by decide +kernel
theorem dX9_sweep_69 : decode cX9_sweep 69 = .ok (.iand, 1) := by decide +kernel
theorem dX9_sweep_70 : decode cX9_sweep 70 = .ok (.invokevirtual 257, 3) := by decide +kernel
theorem dX9_sweep_73 : decode cX9_sweep 73 = .ok (.istore 6, 2) := by decide +kernel
theorem dX9_sweep_75 : decode cX9_sweep 75 = .ok (.iload 6, 2) := by decide +kernel
theorem dX9_sweep_77 : decode cX9_sweep 77 = .ok (.iload_n 3, 1) := by decide +kernel
theorem dX9_sweep_78 : decode cX9_sweep 78 = .ok (.if_icmp .lt 43, 3) := by decide +kernel
theorem dX9_sweep_81 : decode cX9_sweep 81 = .ok (.aload_n 0, 1) := by decide +kernel
theorem dX9_sweep_82 : decode cX9_sweep 82 = .ok (.getfield 19, 3) := by decide +kernel
theorem dX9_sweep_85 : decode cX9_sweep 85 = .ok (.iload 5, 2) := by decide +kernel
theorem dX9_sweep_87 : decode cX9_sweep 87 = .ok (.invokevirtual 326, 3) := by decide +kernel
theorem dX9_sweep_90 : decode cX9_sweep 90 = .ok (.istore 7, 2) := by decide +kernel
theorem dX9_sweep_92 : decode cX9_sweep 92 = .ok (.iload 7, 2) := by decide +kernel
theorem dX9_sweep_94 : decode cX9_sweep 94 = .ok (.iload_n 1, 1) := by decide +kernel
theorem dX9_sweep_95 : decode cX9_sweep 95 = .ok (.if_icmp .gt 26, 3) := by decide +kernel
theorem dX9_sweep_98 : decode cX9_sweep 98 = .ok (.iload 6, 2) := by decide +kernel
theorem dX9_sweep_100 : decode cX9_sweep 100 = .ok (.iload_n 3, 1) := by decide +kernel
theorem dX9_sweep_101 : decode cX9_sweep 101 = .ok (.if_icmp .gt 10, 3) := by decide +kernel
theorem dX9_sweep_104 : decode cX9_sweep 104 = .ok (.iload 7, 2) := by decide +kernel
theorem dX9_sweep_106 : decode cX9_sweep 106 = .ok (.iload 4, 2) := by decide +kernel
theorem dX9_sweep_108 : decode cX9_sweep 108 = .ok (.if_icmp .ge 13, 3) := by decide +kernel
theorem dX9_sweep_111 : decode cX9_sweep 111 = .ok (.iload 5, 2) := by decide +kernel
theorem dX9_sweep_113 : decode cX9_sweep 113 = .ok (.istore_n 2, 1) := by decide +kernel
theorem dX9_sweep_114 : decode cX9_sweep 114 = .ok (.iload 6, 2) := by decide +kernel
theorem dX9_sweep_116 : decode cX9_sweep 116 = .ok (.istore_n 3, 1) := by decide +kernel
theorem dX9_sweep_117 : decode cX9_sweep 117 = .ok (.iload 7, 2) := by decide +kernel
theorem dX9_sweep_119 : decode cX9_sweep 119 = .ok (.istore 4, 2) := by decide +kernel
theorem dX9_sweep_121 : decode cX9_sweep 121 = .ok (.iinc 5 1, 3) := by decide +kernel
theorem dX9_sweep_124 : decode cX9_sweep 124 = .ok (.goto (-87), 3) := by decide +kernel
theorem dX9_sweep_127 : decode cX9_sweep 127 = .ok (.aload_n 0, 1) := by decide +kernel
theorem dX9_sweep_128 : decode cX9_sweep 128 = .ok (.iload_n 2, 1) := by decide +kernel
theorem dX9_sweep_129 : decode cX9_sweep 129 = .ok (.iload 4, 2) := by decide +kernel
theorem dX9_sweep_131 : decode cX9_sweep 131 = .ok (.invokevirtual 234, 3) := by decide +kernel
theorem dX9_sweep_134 : decode cX9_sweep 134 = .ok (.iload_n 3, 1) := by decide +kernel
theorem dX9_sweep_135 : decode cX9_sweep 135 = .ok (.ireturn, 1) := by decide +kernel
theorem dX5_addToDusk_0 : decode cX5_addToDusk 0 = .ok (.iload_n 1, 1) := by decide +kernel
theorem dX5_addToDusk_1 : decode cX5_addToDusk 1 = .ok (.istore 4, 2) := by decide +kernel
theorem dX5_addToDusk_3 : decode cX5_addToDusk 3 = .ok (.iload 4, 2) := by decide +kernel
theorem dX5_addToDusk_5 : decode cX5_addToDusk 5 = .ok (.iload_n 2, 1) := by decide +kernel
theorem dX5_addToDusk_6 : decode cX5_addToDusk 6 = .ok (.if_icmp .lt 52, 3) := by decide +kernel
theorem dX5_addToDusk_9 : decode cX5_addToDusk 9 = .ok (.aload_n 0, 1) := by decide +kernel
theorem dX5_addToDusk_10 : decode cX5_addToDusk 10 = .ok (.getfield 38, 3) := by decide +kernel
theorem dX5_addToDusk_13 : decode cX5_addToDusk 13 = .ok (.iload 4, 2) := by decide +kernel
theorem dX5_addToDusk_15 : decode cX5_addToDusk 15 = .ok (.iload_n 2, 1) := by decide +kernel
theorem dX5_addToDusk_16 : decode cX5_addToDusk 16 = .ok (.isub, 1) := by decide +kernel
theorem dX5_addToDusk_17 : decode cX5_addToDusk 17 = .ok (.iaload, 1) := by decide +kernel
theorem dX5_addToDusk_18 : decode cX5_addToDusk 18 = .ok (.istore 5, 2) := by decide +kernel
theorem dX5_addToDusk_20 : decode cX5_addToDusk 20 = .ok (.iload 5, 2) := by decide +kernel
theorem dX5_addToDusk_22 : decode cX5_addToDusk 22 = .ok (.ldc 136, 2) := by decide +kernel
theorem dX5_addToDusk_24 : decode cX5_addToDusk 24 = .ok (.if_icmp .eq 28, 3) := by decide +kernel
theorem dX5_addToDusk_27 : decode cX5_addToDusk 27 = .ok (.iload 5, 2) := by decide +kernel
theorem dX5_addToDusk_29 : decode cX5_addToDusk 29 = .ok (.iload_n 3, 1) := by decide +kernel
theorem dX5_addToDusk_30 : decode cX5_addToDusk 30 = .ok (.iadd, 1) := by decide +kernel
theorem dX5_addToDusk_31 : decode cX5_addToDusk 31 = .ok (.aload_n 0, 1) := by decide +kernel
theorem dX5_addToDusk_32 : decode cX5_addToDusk 32 = .ok (.getfield 38, 3) := by decide +kernel
theorem dX5_addToDusk_35 : decode cX5_addToDusk 35 = .ok (.iload 4, 2) := by decide +kernel
theorem dX5_addToDusk_37 : decode cX5_addToDusk 37 = .ok (.iaload, 1) := by decide +kernel
theorem dX5_addToDusk_38 : decode cX5_addToDusk 38 = .ok (.if_icmp .le 14, 3) := by decide +kernel
theorem dX5_addToDusk_41 : decode cX5_addToDusk 41 = .ok (.aload_n 0, 1) := by decide +kernel
theorem dX5_addToDusk_42 : decode cX5_addToDusk 42 = .ok (.getfield 38, 3) := by decide +kernel
theorem dX5_addToDusk_45 : decode cX5_addToDusk 45 = .ok (.iload 4, 2) := by decide +kernel
theorem dX5_addToDusk_47 : decode cX5_addToDusk 47 = .ok (.iload 5, 2) := by decide +kernel
theorem dX5_addToDusk_49 : decode cX5_addToDusk 49 = .ok (.iload_n 3, 1) := by decide +kernel
theorem dX5_addToDusk_50 : decode cX5_addToDusk 50 = .ok (.iadd, 1) := by decide +kernel
theorem dX5_addToDusk_51 : decode cX5_addToDusk 51 = .ok (.iastore, 1) := by decide +kernel
theorem dX5_addToDusk_52 : decode cX5_addToDusk 52 = .ok (.iinc 4 (-1), 3) := by decide +kernel
theorem dX5_addToDusk_55 : decode cX5_addToDusk 55 = .ok (.goto (-52), 3) := by decide +kernel
theorem dX5_addToDusk_58 : decode cX5_addToDusk 58 = .ok (.return_, 1) := by decide +kernel
theorem dX5_fillDusk_0 : decode cX5_fillDusk 0 = .ok (.iload_n 1, 1) := by decide +kernel
theorem dX5_fillDusk_1 : decode cX5_fillDusk 1 = .ok (.sipush 300, 3) := by decide +kernel
theorem dX5_fillDusk_4 : decode cX5_fillDusk 4 = .ok (.invokestatic 131, 3) := by decide +kernel
theorem dX5_fillDusk_7 : decode cX5_fillDusk 7 = .ok (.istore_n 2, 1) := by decide +kernel
theorem dX5_fillDusk_8 : decode cX5_fillDusk 8 = .ok (.aload_n 0, 1) := by decide +kernel
theorem dX5_fillDusk_9 : decode cX5_fillDusk 9 = .ok (.getfield 38, 3) := by decide +kernel
theorem dX5_fillDusk_12 : decode cX5_fillDusk 12 = .ok (.iconst 0, 1) := by decide +kernel
theorem dX5_fillDusk_13 : decode cX5_fillDusk 13 = .ok (.iconst 0, 1) := by decide +kernel
theorem dX5_fillDusk_14 : decode cX5_fillDusk 14 = .ok (.iastore, 1) := by decide +kernel
theorem dX5_fillDusk_15 : decode cX5_fillDusk 15 = .ok (.iconst 1, 1) := by decide +kernel
theorem dX5_fillDusk_16 : decode cX5_fillDusk 16 = .ok (.istore_n 3, 1) := by decide +kernel
theorem dX5_fillDusk_17 : decode cX5_fillDusk 17 = .ok (.iload_n 3, 1) := by decide +kernel
theorem dX5_fillDusk_18 : decode cX5_fillDusk 18 = .ok (.iload_n 2, 1) := by decide +kernel
theorem dX5_fillDusk_19 : decode cX5_fillDusk 19 = .ok (.if_icmp .gt 17, 3) := by decide +kernel
theorem dX5_fillDusk_22 : decode cX5_fillDusk 22 = .ok (.aload_n 0, 1) := by decide +kernel
theorem dX5_fillDusk_23 : decode cX5_fillDusk 23 = .ok (.getfield 38, 3) := by decide +kernel
theorem dX5_fillDusk_26 : decode cX5_fillDusk 26 = .ok (.iload_n 3, 1) := by decide +kernel
theorem dX5_fillDusk_27 : decode cX5_fillDusk 27 = .ok (.ldc 136, 2) := by decide +kernel
theorem dX5_fillDusk_29 : decode cX5_fillDusk 29 = .ok (.iastore, 1) := by decide +kernel
theorem dX5_fillDusk_30 : decode cX5_fillDusk 30 = .ok (.iinc 3 1, 3) := by decide +kernel
theorem dX5_fillDusk_33 : decode cX5_fillDusk 33 = .ok (.goto (-16), 3) := by decide +kernel
theorem dX5_fillDusk_36 : decode cX5_fillDusk 36 = .ok (.aload_n 0, 1) := by decide +kernel
theorem dX5_fillDusk_37 : decode cX5_fillDusk 37 = .ok (.getfield 14, 3) := by decide +kernel
theorem dX5_fillDusk_40 : decode cX5_fillDusk 40 = .ok (.invokevirtual 137, 3) := by decide +kernel
theorem dX5_fillDusk_43 : decode cX5_fillDusk 43 = .ok (.istore_n 3, 1) := by decide +kernel
theorem dX5_fillDusk_44 : decode cX5_fillDusk 44 = .ok (.iconst 0, 1) := by decide +kernel
theorem dX5_fillDusk_45 : decode cX5_fillDusk 45 = .ok (.istore 4, 2) := by decide +kernel
theorem dX5_fillDusk_47 : decode cX5_fillDusk 47 = .ok (.iload 4, 2) := by decide +kernel
theorem dX5_fillDusk_49 : decode cX5_fillDusk 49 = .ok (.aload_n 0, 1) := by decide +kernel
theorem dX5_fillDusk_50 : decode cX5_fillDusk 50 = .ok (.getfield 24, 3) := by decide +kernel
theorem dX5_fillDusk_53 : decode cX5_fillDusk 53 = .ok (.getfield 97, 3) := by decide +kernel
theorem dX5_fillDusk_56 : decode cX5_fillDusk 56 = .ok (.if_icmp .ge 73, 3) := by decide +kernel
theorem dX5_fillDusk_59 : decode cX5_fillDusk 59 = .ok (.iload_n 3, 1) := by decide +kernel
theorem dX5_fillDusk_60 : decode cX5_fillDusk 60 = .ok (.iload 4, 2) := by decide +kernel
theorem dX5_fillDusk_62 : decode cX5_fillDusk 62 = .ok (.ishr, 1) := by decide +kernel
theorem dX5_fillDusk_63 : decode cX5_fillDusk 63 = .ok (.iconst 1, 1) := by decide +kernel
theorem dX5_fillDusk_64 : decode cX5_fillDusk 64 = .ok (.iand, 1) := by decide +kernel
theorem dX5_fillDusk_65 : decode cX5_fillDusk 65 = .ok (.ifCond .eq 58, 3) := by decide +kernel
theorem dX5_fillDusk_68 : decode cX5_fillDusk 68 = .ok (.iconst 1, 1) := by decide +kernel
theorem dX5_fillDusk_69 : decode cX5_fillDusk 69 = .ok (.iload 4, 2) := by decide +kernel
theorem dX5_fillDusk_71 : decode cX5_fillDusk 71 = .ok (.ishl, 1) := by decide +kernel
theorem dX5_fillDusk_72 : decode cX5_fillDusk 72 = .ok (.istore 5, 2) := by decide +kernel
theorem dX5_fillDusk_74 : decode cX5_fillDusk 74 = .ok (.aload_n 0, 1) := by decide +kernel
theorem dX5_fillDusk_75 : decode cX5_fillDusk 75 = .ok (.getfield 14, 3) := by decide +kernel
theorem dX5_fillDusk_78 : decode cX5_fillDusk 78 = .ok (.iload 4, 2) := by decide +kernel
theorem dX5_fillDusk_80 : decode cX5_fillDusk 80 = .ok (.aload_n 0, 1) := by decide +kernel
theorem dX5_fillDusk_81 : decode cX5_fillDusk 81 = .ok (.getfield 14, 3) := by decide +kernel
theorem dX5_fillDusk_84 : decode cX5_fillDusk 84 = .ok (.getfield 41, 3) := by decide +kernel
theorem dX5_fillDusk_87 : decode cX5_fillDusk 87 = .ok (.getfield 119, 3) := by decide +kernel
theorem dX5_fillDusk_90 : decode cX5_fillDusk 90 = .ok (.iconst 0, 1) := by decide +kernel
theorem dX5_fillDusk_91 : decode cX5_fillDusk 91 = .ok (.iconst 0, 1) := by decide +kernel
theorem dX5_fillDusk_92 : decode cX5_fillDusk 92 = .ok (.invokevirtual 103, 3) := by decide +kernel
theorem dX5_fillDusk_95 : decode cX5_fillDusk 95 = .ok (.istore 6, 2) := by decide +kernel
theorem dX5_fillDusk_97 : decode cX5_fillDusk 97 = .ok (.aload_n 0, 1) := by decide +kernel
theorem dX5_fillDusk_98 : decode cX5_fillDusk 98 = .ok (.iload_n 2, 1) := by decide +kernel
theorem dX5_fillDusk_99 : decode cX5_fillDusk 99 = .ok (.iconst 1, 1) := by decide +kernel
theorem dX5_fillDusk_100 : decode cX5_fillDusk 100 = .ok (.iload 6, 2) := by decide +kernel
theorem dX5_fillDusk_102 : decode cX5_fillDusk 102 = .ok (.invokestatic 140, 3) := by decide +kernel
theorem dX5_fillDusk_105 : decode cX5_fillDusk 105 = .ok (.aload_n 0, 1) := by decide +kernel
theorem dX5_fillDusk_106 : decode cX5_fillDusk 106 = .ok (.getfield 14, 3) := by decide +kernel
theorem dX5_fillDusk_109 : decode cX5_fillDusk 109 = .ok (.iload 5, 2) := by decide +kernel
theorem dX5_fillDusk_111 : decode cX5_fillDusk 111 = .ok (.invokevirtual 87, 3) := by decide +kernel
theorem dX5_fillDusk_114 : decode cX5_fillDusk 114 = .ok (.bipush 16, 2) := by decide +kernel
theorem dX5_fillDusk_116 : decode cX5_fillDusk 116 = .ok (.ishl, 1) := by decide +kernel
theorem dX5_fillDusk_117 : decode cX5_fillDusk 117 = .ok (.iload 5, 2) := by decide +kernel
theorem dX5_fillDusk_119 : decode cX5_fillDusk 119 = .ok (.isub, 1) := by decide +kernel
theorem dX5_fillDusk_120 : decode cX5_fillDusk 120 = .ok (.invokevirtual 143, 3) := by decide +kernel
theorem dX5_fillDusk_123 : decode cX5_fillDusk 123 = .ok (.iinc 4 1, 3) := by decide +kernel
theorem dX5_fillDusk_126 : decode cX5_fillDusk 126 = .ok (.goto (-79), 3) := by decide +kernel
theorem dX5_fillDusk_129 : decode cX5_fillDusk 129 = .ok (.return_, 1) := by decide +kernel
theorem dX5_duskWorth_0 : decode cX5_duskWorth 0 = .ok (.aload_n 0, 1) := by decide +kernel
theorem dX5_duskWorth_1 : decode cX5_duskWorth 1 = .ok (.getfield 38, 3) := by decide +kernel
theorem dX5_duskWorth_4 : decode cX5_duskWorth 4 = .ok (.iload_n 1, 1) := by decide +kernel
theorem dX5_duskWorth_5 : decode cX5_duskWorth 5 = .ok (.iaload, 1) := by decide +kernel
theorem dX5_duskWorth_6 : decode cX5_duskWorth 6 = .ok (.ldc 136, 2) := by decide +kernel
theorem dX5_duskWorth_8 : decode cX5_duskWorth 8 = .ok (.if_icmp .ne 7, 3) := by decide +kernel
theorem dX5_duskWorth_11 : decode cX5_duskWorth 11 = .ok (.iconst (-1), 1) := by decide +kernel
theorem dX5_duskWorth_12 : decode cX5_duskWorth 12 = .ok (.goto 15, 3) := by decide +kernel
theorem dX5_duskWorth_15 : decode cX5_duskWorth 15 = .ok (.aload_n 0, 1) := by decide +kernel
theorem dX5_duskWorth_16 : decode cX5_duskWorth 16 = .ok (.getfield 38, 3) := by decide +kernel
theorem dX5_duskWorth_19 : decode cX5_duskWorth 19 = .ok (.iload_n 1, 1) := by decide +kernel
theorem dX5_duskWorth_20 : decode cX5_duskWorth 20 = .ok (.iaload, 1) := by decide +kernel
theorem dX5_duskWorth_21 : decode cX5_duskWorth 21 = .ok (.ldc 147, 2) := by decide +kernel
theorem dX5_duskWorth_23 : decode cX5_duskWorth 23 = .ok (.iadd, 1) := by decide +kernel
theorem dX5_duskWorth_24 : decode cX5_duskWorth 24 = .ok (.bipush 16, 2) := by decide +kernel
theorem dX5_duskWorth_26 : decode cX5_duskWorth 26 = .ok (.ishr, 1) := by decide +kernel
theorem dX5_duskWorth_27 : decode cX5_duskWorth 27 = .ok (.ireturn, 1) := by decide +kernel
theorem dX5_duskFruits_0 : decode cX5_duskFruits 0 = .ok (.aload_n 0, 1) := by decide +kernel
theorem dX5_duskFruits_1 : decode cX5_duskFruits 1 = .ok (.getfield 38, 3) := by decide +kernel
theorem dX5_duskFruits_4 : decode cX5_duskFruits 4 = .ok (.iload_n 1, 1) := by decide +kernel
theorem dX5_duskFruits_5 : decode cX5_duskFruits 5 = .ok (.iaload, 1) := by decide +kernel
theorem dX5_duskFruits_6 : decode cX5_duskFruits 6 = .ok (.ldc 136, 2) := by decide +kernel
theorem dX5_duskFruits_8 : decode cX5_duskFruits 8 = .ok (.if_icmp .ne 7, 3) := by decide +kernel
theorem dX5_duskFruits_11 : decode cX5_duskFruits 11 = .ok (.iconst 0, 1) := by decide +kernel
theorem dX5_duskFruits_12 : decode cX5_duskFruits 12 = .ok (.goto 13, 3) := by decide +kernel
theorem dX5_duskFruits_15 : decode cX5_duskFruits 15 = .ok (.aload_n 0, 1) := by decide +kernel
theorem dX5_duskFruits_16 : decode cX5_duskFruits 16 = .ok (.getfield 38, 3) := by decide +kernel
theorem dX5_duskFruits_19 : decode cX5_duskFruits 19 = .ok (.iload_n 1, 1) := by decide +kernel
theorem dX5_duskFruits_20 : decode cX5_duskFruits 20 = .ok (.iaload, 1) := by decide +kernel
theorem dX5_duskFruits_21 : decode cX5_duskFruits 21 = .ok (.ineg, 1) := by decide +kernel
theorem dX5_duskFruits_22 : decode cX5_duskFruits 22 = .ok (.ldc 147, 2) := by decide +kernel
theorem dX5_duskFruits_24 : decode cX5_duskFruits 24 = .ok (.iand, 1) := by decide +kernel
theorem dX5_duskFruits_25 : decode cX5_duskFruits 25 = .ok (.ireturn, 1) := by decide +kernel
theorem dX9_dusk_0 : decode cX9_dusk 0 = .ok (.iload_n 1, 1) := by decide +kernel
theorem dX9_dusk_1 : decode cX9_dusk 1 = .ok (.ifCond .lt 10, 3) := by decide +kernel
theorem dX9_dusk_4 : decode cX9_dusk 4 = .ok (.iload_n 1, 1) := by decide +kernel
theorem dX9_dusk_5 : decode cX9_dusk 5 = .ok (.sipush 300, 3) := by decide +kernel
theorem dX9_dusk_8 : decode cX9_dusk 8 = .ok (.if_icmp .le 5, 3) := by decide +kernel
theorem dX9_dusk_11 : decode cX9_dusk 11 = .ok (.iconst (-1), 1) := by decide +kernel
theorem dX9_dusk_12 : decode cX9_dusk 12 = .ok (.ireturn, 1) := by decide +kernel
theorem dX9_dusk_13 : decode cX9_dusk 13 = .ok (.aload_n 0, 1) := by decide +kernel
theorem dX9_dusk_14 : decode cX9_dusk 14 = .ok (.getfield 39, 3) := by decide +kernel
theorem dX9_dusk_17 : decode cX9_dusk 17 = .ok (.getfield 308, 3) := by decide +kernel
theorem dX9_dusk_20 : decode cX9_dusk 20 = .ok (.iconst (-1), 1) := by decide +kernel
theorem dX9_dusk_21 : decode cX9_dusk 21 = .ok (.if_icmp .ne 6, 3) := by decide +kernel
theorem dX9_dusk_24 : decode cX9_dusk 24 = .ok (.bipush (-2), 2) := by decide +kernel
theorem dX9_dusk_26 : decode cX9_dusk 26 = .ok (.ireturn, 1) := by decide +kernel
theorem dX9_dusk_27 : decode cX9_dusk 27 = .ok (.aload_n 0, 1) := by decide +kernel
theorem dX9_dusk_28 : decode cX9_dusk 28 = .ok (.getfield 19, 3) := by decide +kernel
theorem dX9_dusk_31 : decode cX9_dusk 31 = .ok (.iload_n 1, 1) := by decide +kernel
theorem dX9_dusk_32 : decode cX9_dusk 32 = .ok (.invokevirtual 359, 3) := by decide +kernel
theorem dX9_dusk_35 : decode cX9_dusk 35 = .ok (.iconst 0, 1) := by decide +kernel
theorem dX9_dusk_36 : decode cX9_dusk 36 = .ok (.istore_n 2, 1) := by decide +kernel
theorem dX9_dusk_37 : decode cX9_dusk 37 = .ok (.iconst 0, 1) := by decide +kernel
theorem dX9_dusk_38 : decode cX9_dusk 38 = .ok (.istore_n 3, 1) := by decide +kernel
theorem dX9_dusk_39 : decode cX9_dusk 39 = .ok (.iconst 0, 1) := by decide +kernel
theorem dX9_dusk_40 : decode cX9_dusk 40 = .ok (.istore 4, 2) := by decide +kernel
theorem dX9_dusk_42 : decode cX9_dusk 42 = .ok (.iconst 1, 1) := by decide +kernel
theorem dX9_dusk_43 : decode cX9_dusk 43 = .ok (.istore 5, 2) := by decide +kernel
theorem dX9_dusk_45 : decode cX9_dusk 45 = .ok (.iload 5, 2) := by decide +kernel
theorem dX9_dusk_47 : decode cX9_dusk 47 = .ok (.iload_n 1, 1) := by decide +kernel
theorem dX9_dusk_48 : decode cX9_dusk 48 = .ok (.if_icmp .gt 43, 3) := by decide +kernel
theorem dX9_dusk_51 : decode cX9_dusk 51 = .ok (.aload_n 0, 1) := by decide +kernel
theorem dX9_dusk_52 : decode cX9_dusk 52 = .ok (.getfield 19, 3) := by decide +kernel
theorem dX9_dusk_55 : decode cX9_dusk 55 = .ok (.iload 5, 2) := by decide +kernel
theorem dX9_dusk_57 : decode cX9_dusk 57 = .ok (.invokevirtual 362, 3) := by decide +kernel
theorem dX9_dusk_60 : decode cX9_dusk 60 = .ok (.istore 6, 2) := by decide +kernel
theorem dX9_dusk_62 : decode cX9_dusk 62 = .ok (.iload 6, 2) := by decide +kernel
theorem dX9_dusk_64 : decode cX9_dusk 64 = .ok (.iload_n 2, 1) := by decide +kernel
theorem dX9_dusk_65 : decode cX9_dusk 65 = .ok (.if_icmp .le 20, 3) := by decide +kernel
theorem dX9_dusk_68 : decode cX9_dusk 68 = .ok (.iload 6, 2) := by decide +kernel
theorem dX9_dusk_70 : decode cX9_dusk 70 = .ok (.istore_n 2, 1) := by decide +kernel
theorem dX9_dusk_71 : decode cX9_dusk 71 = .ok (.aload_n 0, 1) := by decide +kernel
theorem dX9_dusk_72 : decode cX9_dusk 72 = .ok (.getfield 19, 3) := by decide +kernel
theorem dX9_dusk_75 : decode cX9_dusk 75 = .ok (.iload 5, 2) := by decide +kernel
theorem dX9_dusk_77 : decode cX9_dusk 77 = .ok (.invokevirtual 365, 3) := by decide +kernel
theorem dX9_dusk_80 : decode cX9_dusk 80 = .ok (.istore_n 3, 1) := by decide +kernel
theorem dX9_dusk_81 : decode cX9_dusk 81 = .ok (.iload 5, 2) := by decide +kernel
theorem dX9_dusk_83 : decode cX9_dusk 83 = .ok (.istore 4, 2) := by decide +kernel
theorem dX9_dusk_85 : decode cX9_dusk 85 = .ok (.iinc 5 1, 3) := by decide +kernel
theorem dX9_dusk_88 : decode cX9_dusk 88 = .ok (.goto (-43), 3) := by decide +kernel
theorem dX9_dusk_91 : decode cX9_dusk 91 = .ok (.aload_n 0, 1) := by decide +kernel
theorem dX9_dusk_92 : decode cX9_dusk 92 = .ok (.iload_n 3, 1) := by decide +kernel
theorem dX9_dusk_93 : decode cX9_dusk 93 = .ok (.iload 4, 2) := by decide +kernel
theorem dX9_dusk_95 : decode cX9_dusk 95 = .ok (.invokevirtual 234, 3) := by decide +kernel
theorem dX9_dusk_98 : decode cX9_dusk 98 = .ok (.iload_n 2, 1) := by decide +kernel
theorem dX9_dusk_99 : decode cX9_dusk 99 = .ok (.ireturn, 1) := by decide +kernel
theorem dX3_firstUncovering_0 : decode cX3_firstUncovering 0 = .ok (.iconst 0, 1) := by decide +kernel
theorem dX3_firstUncovering_1 : decode cX3_firstUncovering 1 = .ok (.istore_n 3, 1) := by decide +kernel
theorem dX3_firstUncovering_2 : decode cX3_firstUncovering 2 = .ok (.iload_n 3, 1) := by decide +kernel
theorem dX3_firstUncovering_3 : decode cX3_firstUncovering 3 = .ok (.aload_n 0, 1) := by decide +kernel
theorem dX3_firstUncovering_4 : decode cX3_firstUncovering 4 = .ok (.getfield 33, 3) := by decide +kernel
theorem dX3_firstUncovering_7 : decode cX3_firstUncovering 7 = .ok (.if_icmp .ge 28, 3) := by decide +kernel
theorem dX3_firstUncovering_10 : decode cX3_firstUncovering 10 = .ok (.iload_n 1, 1) := by decide +kernel
theorem dX3_firstUncovering_11 : decode cX3_firstUncovering 11 = .ok (.iload_n 3, 1) := by decide +kernel
theorem dX3_firstUncovering_12 : decode cX3_firstUncovering 12 = .ok (.ishr, 1) := by decide +kernel
theorem dX3_firstUncovering_13 : decode cX3_firstUncovering 13 = .ok (.iconst 1, 1) := by decide +kernel
theorem dX3_firstUncovering_14 : decode cX3_firstUncovering 14 = .ok (.iand, 1) := by decide +kernel
theorem dX3_firstUncovering_15 : decode cX3_firstUncovering 15 = .ok (.ifCond .eq 14, 3) := by decide +kernel
theorem dX3_firstUncovering_18 : decode cX3_firstUncovering 18 = .ok (.aload_n 0, 1) := by decide +kernel
theorem dX3_firstUncovering_19 : decode cX3_firstUncovering 19 = .ok (.iload_n 3, 1) := by decide +kernel
theorem dX3_firstUncovering_20 : decode cX3_firstUncovering 20 = .ok (.iload_n 2, 1) := by decide +kernel
theorem dX3_firstUncovering_21 : decode cX3_firstUncovering 21 = .ok (.invokevirtual 92, 3) := by decide +kernel
theorem dX3_firstUncovering_24 : decode cX3_firstUncovering 24 = .ok (.ifCond .ne 5, 3) := by decide +kernel
theorem dX3_firstUncovering_27 : decode cX3_firstUncovering 27 = .ok (.iload_n 3, 1) := by decide +kernel
theorem dX3_firstUncovering_28 : decode cX3_firstUncovering 28 = .ok (.ireturn, 1) := by decide +kernel
theorem dX3_firstUncovering_29 : decode cX3_firstUncovering 29 = .ok (.iinc 3 1, 3) := by decide +kernel
theorem dX3_firstUncovering_32 : decode cX3_firstUncovering 32 = .ok (.goto (-30), 3) := by decide +kernel
theorem dX3_firstUncovering_35 : decode cX3_firstUncovering 35 = .ok (.iconst (-1), 1) := by decide +kernel
theorem dX3_firstUncovering_36 : decode cX3_firstUncovering 36 = .ok (.ireturn, 1) := by decide +kernel
theorem dX9_gentle_0 : decode cX9_gentle 0 = .ok (.aload_n 0, 1) := by decide +kernel
theorem dX9_gentle_1 : decode cX9_gentle 1 = .ok (.getfield 39, 3) := by decide +kernel
theorem dX9_gentle_4 : decode cX9_gentle 4 = .ok (.getfield 308, 3) := by decide +kernel
theorem dX9_gentle_7 : decode cX9_gentle 7 = .ok (.iconst (-1), 1) := by decide +kernel
theorem dX9_gentle_8 : decode cX9_gentle 8 = .ok (.if_icmp .ne 6, 3) := by decide +kernel
theorem dX9_gentle_11 : decode cX9_gentle 11 = .ok (.bipush (-2), 2) := by decide +kernel
theorem dX9_gentle_13 : decode cX9_gentle 13 = .ok (.ireturn, 1) := by decide +kernel
theorem dX9_gentle_14 : decode cX9_gentle 14 = .ok (.aload_n 0, 1) := by decide +kernel
theorem dX9_gentle_15 : decode cX9_gentle 15 = .ok (.getfield 50, 3) := by decide +kernel
theorem dX9_gentle_18 : decode cX9_gentle 18 = .ok (.invokevirtual 304, 3) := by decide +kernel
theorem dX9_gentle_21 : decode cX9_gentle 21 = .ok (.aload_n 0, 1) := by decide +kernel
theorem dX9_gentle_22 : decode cX9_gentle 22 = .ok (.getfield 27, 3) := by decide +kernel
theorem dX9_gentle_25 : decode cX9_gentle 25 = .ok (.invokevirtual 143, 3) := by decide +kernel
theorem dX9_gentle_28 : decode cX9_gentle 28 = .ok (.istore_n 1, 1) := by decide +kernel
theorem dX9_gentle_29 : decode cX9_gentle 29 = .ok (.aload_n 0, 1) := by decide +kernel
theorem dX9_gentle_30 : decode cX9_gentle 30 = .ok (.getfield 27, 3) := by decide +kernel
theorem dX9_gentle_33 : decode cX9_gentle 33 = .ok (.invokevirtual 368, 3) := by decide +kernel
theorem dX9_gentle_36 : decode cX9_gentle 36 = .ok (.istore_n 2, 1) := by decide +kernel
theorem dX9_gentle_37 : decode cX9_gentle 37 = .ok (.iconst 0, 1) := by decide +kernel
theorem dX9_gentle_38 : decode cX9_gentle 38 = .ok (.istore_n 3, 1) := by decide +kernel
theorem dX9_gentle_39 : decode cX9_gentle 39 = .ok (.iload_n 3, 1) := by decide +kernel
theorem dX9_gentle_40 : decode cX9_gentle 40 = .ok (.bipush 16, 2) := by decide +kernel
theorem dX9_gentle_42 : decode cX9_gentle 42 = .ok (.if_icmp .ge 49, 3) := by decide +kernel
theorem dX9_gentle_45 : decode cX9_gentle 45 = .ok (.aload_n 0, 1) := by decide +kernel
theorem dX9_gentle_46 : decode cX9_gentle 46 = .ok (.getfield 34, 3) := by decide +kernel
theorem dX9_gentle_49 : decode cX9_gentle 49 = .ok (.iload_n 2, 1) := by decide +kernel
theorem dX9_gentle_50 : decode cX9_gentle 50 = .ok (.iload_n 1, 1) := by decide +kernel
theorem dX9_gentle_51 : decode cX9_gentle 51 = .ok (.iand, 1) := by decide +kernel
theorem dX9_gentle_52 : decode cX9_gentle 52 = .ok (.iload_n 1, 1) := by decide +kernel
theorem dX9_gentle_53 : decode cX9_gentle 53 = .ok (.invokevirtual 371, 3) := by decide +kernel
theorem dX9_gentle_56 : decode cX9_gentle 56 = .ok (.istore 4, 2) := by decide +kernel
theorem dX9_gentle_58 : decode cX9_gentle 58 = .ok (.iload 4, 2) := by decide +kernel
theorem dX9_gentle_60 : decode cX9_gentle 60 = .ok (.iconst (-1), 1) := by decide +kernel
theorem dX9_gentle_61 : decode cX9_gentle 61 = .ok (.if_icmp .ne 6, 3) := by decide +kernel
theorem dX9_gentle_64 : decode cX9_gentle 64 = .ok (.goto 27, 3) := by decide +kernel
theorem dX9_gentle_67 : decode cX9_gentle 67 = .ok (.aload_n 0, 1) := by decide +kernel
theorem dX9_gentle_68 : decode cX9_gentle 68 = .ok (.getfield 50, 3) := by decide +kernel
theorem dX9_gentle_71 : decode cX9_gentle 71 = .ok (.iload 4, 2) := by decide +kernel
theorem dX9_gentle_73 : decode cX9_gentle 73 = .ok (.invokevirtual 318, 3) := by decide +kernel
theorem dX9_gentle_76 : decode cX9_gentle 76 = .ok (.iload_n 1, 1) := by decide +kernel
theorem dX9_gentle_77 : decode cX9_gentle 77 = .ok (.iconst 1, 1) := by decide +kernel
theorem dX9_gentle_78 : decode cX9_gentle 78 = .ok (.iload 4, 2) := by decide +kernel
theorem dX9_gentle_80 : decode cX9_gentle 80 = .ok (.ishl, 1) := by decide +kernel
theorem dX9_gentle_81 : decode cX9_gentle 81 = .ok (.iconst (-1), 1) := by decide +kernel
theorem dX9_gentle_82 : decode cX9_gentle 82 = .ok (.ixor, 1) := by decide +kernel
theorem dX9_gentle_83 : decode cX9_gentle 83 = .ok (.iand, 1) := by decide +kernel
theorem dX9_gentle_84 : decode cX9_gentle 84 = .ok (.istore_n 1, 1) := by decide +kernel
theorem dX9_gentle_85 : decode cX9_gentle 85 = .ok (.iinc 3 1, 3) := by decide +kernel
theorem dX9_gentle_88 : decode cX9_gentle 88 = .ok (.goto (-49), 3) := by decide +kernel
theorem dX9_gentle_91 : decode cX9_gentle 91 = .ok (.aload_n 0, 1) := by decide +kernel
theorem dX9_gentle_92 : decode cX9_gentle 92 = .ok (.getfield 50, 3) := by decide +kernel
theorem dX9_gentle_95 : decode cX9_gentle 95 = .ok (.getfield 374, 3) := by decide +kernel
theorem dX9_gentle_98 : decode cX9_gentle 98 = .ok (.ireturn, 1) := by decide +kernel
theorem dX9_harm_0 : decode cX9_harm 0 = .ok (.aload_n 0, 1) := by decide +kernel
theorem dX9_harm_1 : decode cX9_harm 1 = .ok (.getfield 39, 3) := by decide +kernel
theorem dX9_harm_4 : decode cX9_harm 4 = .ok (.getfield 308, 3) := by decide +kernel
theorem dX9_harm_7 : decode cX9_harm 7 = .ok (.iconst (-1), 1) := by decide +kernel
theorem dX9_harm_8 : decode cX9_harm 8 = .ok (.if_icmp .ne 6, 3) := by decide +kernel
theorem dX9_harm_11 : decode cX9_harm 11 = .ok (.bipush (-2), 2) := by decide +kernel
theorem dX9_harm_13 : decode cX9_harm 13 = .ok (.ireturn, 1) := by decide +kernel
theorem dX9_harm_14 : decode cX9_harm 14 = .ok (.aload_n 0, 1) := by decide +kernel
theorem dX9_harm_15 : decode cX9_harm 15 = .ok (.getfield 27, 3) := by decide +kernel
theorem dX9_harm_18 : decode cX9_harm 18 = .ok (.invokevirtual 143, 3) := by decide +kernel
theorem dX9_harm_21 : decode cX9_harm 21 = .ok (.istore_n 1, 1) := by decide +kernel
theorem dX9_harm_22 : decode cX9_harm 22 = .ok (.aload_n 0, 1) := by decide +kernel
theorem dX9_harm_23 : decode cX9_harm 23 = .ok (.getfield 27, 3) := by decide +kernel
theorem dX9_harm_26 : decode cX9_harm 26 = .ok (.invokevirtual 368, 3) := by decide +kernel
theorem dX9_harm_29 : decode cX9_harm 29 = .ok (.istore_n 2, 1) := by decide +kernel
theorem dX9_harm_30 : decode cX9_harm 30 = .ok (.iconst 0, 1) := by decide +kernel
theorem dX9_harm_31 : decode cX9_harm 31 = .ok (.istore_n 3, 1) := by decide +kernel
theorem dX9_harm_32 : decode cX9_harm 32 = .ok (.iconst 0, 1) := by decide +kernel
theorem dX9_harm_33 : decode cX9_harm 33 = .ok (.istore 4, 2) := by decide +kernel
theorem dX9_harm_35 : decode cX9_harm 35 = .ok (.iload 4, 2) := by decide +kernel
theorem dX9_harm_37 : decode cX9_harm 37 = .ok (.aload_n 0, 1) := by decide +kernel
theorem dX9_harm_38 : decode cX9_harm 38 = .ok (.getfield 34, 3) := by decide +kernel
theorem dX9_harm_41 : decode cX9_harm 41 = .ok (.getfield 341, 3) := by decide +kernel
theorem dX9_harm_44 : decode cX9_harm 44 = .ok (.if_icmp .ge 40, 3) := by decide +kernel
theorem dX9_harm_47 : decode cX9_harm 47 = .ok (.iload_n 2, 1) := by decide +kernel
theorem dX9_harm_48 : decode cX9_harm 48 = .ok (.iload 4, 2) := by decide +kernel
theorem dX9_harm_50 : decode cX9_harm 50 = .ok (.ishr, 1) := by decide +kernel
theorem dX9_harm_51 : decode cX9_harm 51 = .ok (.iconst 1, 1) := by decide +kernel
theorem dX9_harm_52 : decode cX9_harm 52 = .ok (.iand, 1) := by decide +kernel
theorem dX9_harm_53 : decode cX9_harm 53 = .ok (.ifCond .eq 25, 3) := by decide +kernel
theorem dX9_harm_56 : decode cX9_harm 56 = .ok (.iload_n 3, 1) := by decide +kernel
theorem dX9_harm_57 : decode cX9_harm 57 = .ok (.aload_n 0, 1) := by decide +kernel
theorem dX9_harm_58 : decode cX9_harm 58 = .ok (.getfield 34, 3) := by decide +kernel
theorem dX9_harm_61 : decode cX9_harm 61 = .ok (.iload 4, 2) := by decide +kernel
theorem dX9_harm_63 : decode cX9_harm 63 = .ok (.iload_n 1, 1) := by decide +kernel
theorem dX9_harm_64 : decode cX9_harm 64 = .ok (.invokevirtual 146, 3) := by decide +kernel
theorem dX9_harm_67 : decode cX9_harm 67 = .ok (.ior, 1) := by decide +kernel
theorem dX9_harm_68 : decode cX9_harm 68 = .ok (.istore_n 3, 1) := by decide +kernel
theorem dX9_harm_69 : decode cX9_harm 69 = .ok (.iload_n 1, 1) := by decide +kernel
theorem dX9_harm_70 : decode cX9_harm 70 = .ok (.iconst 1, 1) := by decide +kernel
theorem dX9_harm_71 : decode cX9_harm 71 = .ok (.iload 4, 2) := by decide +kernel
theorem dX9_harm_73 : decode cX9_harm 73 = .ok (.ishl, 1) := by decide +kernel
theorem dX9_harm_74 : decode cX9_harm 74 = .ok (.iconst (-1), 1) := by decide +kernel
theorem dX9_harm_75 : decode cX9_harm 75 = .ok (.ixor, 1) := by decide +kernel
theorem dX9_harm_76 : decode cX9_harm 76 = .ok (.iand, 1) := by decide +kernel
theorem dX9_harm_77 : decode cX9_harm 77 = .ok (.istore_n 1, 1) := by decide +kernel
theorem dX9_harm_78 : decode cX9_harm 78 = .ok (.iinc 4 1, 3) := by decide +kernel
theorem dX9_harm_81 : decode cX9_harm 81 = .ok (.goto (-46), 3) := by decide +kernel
theorem dX9_harm_84 : decode cX9_harm 84 = .ok (.aload_n 0, 1) := by decide +kernel
theorem dX9_harm_85 : decode cX9_harm 85 = .ok (.aload_n 0, 1) := by decide +kernel
theorem dX9_harm_86 : decode cX9_harm 86 = .ok (.getfield 27, 3) := by decide +kernel
theorem dX9_harm_89 : decode cX9_harm 89 = .ok (.iload_n 3, 1) := by decide +kernel
theorem dX9_harm_90 : decode cX9_harm 90 = .ok (.invokevirtual 257, 3) := by decide +kernel
theorem dX9_harm_93 : decode cX9_harm 93 = .ok (.aload_n 0, 1) := by decide +kernel
theorem dX9_harm_94 : decode cX9_harm 94 = .ok (.getfield 34, 3) := by decide +kernel
theorem dX9_harm_97 : decode cX9_harm 97 = .ok (.iload_n 3, 1) := by decide +kernel
theorem dX9_harm_98 : decode cX9_harm 98 = .ok (.aload_n 0, 1) := by decide +kernel
theorem dX9_harm_99 : decode cX9_harm 99 = .ok (.getfield 39, 3) := by decide +kernel
theorem dX9_harm_102 : decode cX9_harm 102 = .ok (.getfield 140, 3) := by decide +kernel
theorem dX9_harm_105 : decode cX9_harm 105 = .ok (.iload_n 3, 1) := by decide +kernel
theorem dX9_harm_106 : decode cX9_harm 106 = .ok (.ior, 1) := by decide +kernel
theorem dX9_harm_107 : decode cX9_harm 107 = .ok (.invokevirtual 377, 3) := by decide +kernel
theorem dX9_harm_110 : decode cX9_harm 110 = .ok (.isub, 1) := by decide +kernel
theorem dX9_harm_111 : decode cX9_harm 111 = .ok (.invokevirtual 260, 3) := by decide +kernel
theorem dX9_harm_114 : decode cX9_harm 114 = .ok (.iload_n 3, 1) := by decide +kernel
theorem dX9_harm_115 : decode cX9_harm 115 = .ok (.ireturn, 1) := by decide +kernel
theorem dX5_loadFirsts_0 : decode cX5_loadFirsts 0 = .ok (.aload_n 0, 1) := by decide +kernel
theorem dX5_loadFirsts_1 : decode cX5_loadFirsts 1 = .ok (.getfield 84, 3) := by decide +kernel
theorem dX5_loadFirsts_4 : decode cX5_loadFirsts 4 = .ok (.istore_n 2, 1) := by decide +kernel
theorem dX5_loadFirsts_5 : decode cX5_loadFirsts 5 = .ok (.iconst 0, 1) := by decide +kernel
theorem dX5_loadFirsts_6 : decode cX5_loadFirsts 6 = .ok (.istore_n 3, 1) := by decide +kernel
theorem dX5_loadFirsts_7 : decode cX5_loadFirsts 7 = .ok (.iload_n 3, 1) := by decide +kernel
theorem dX5_loadFirsts_8 : decode cX5_loadFirsts 8 = .ok (.aload_n 0, 1) := by decide +kernel
theorem dX5_loadFirsts_9 : decode cX5_loadFirsts 9 = .ok (.getfield 24, 3) := by decide +kernel
theorem dX5_loadFirsts_12 : decode cX5_loadFirsts 12 = .ok (.getfield 64, 3) := by decide +kernel
theorem dX5_loadFirsts_15 : decode cX5_loadFirsts 15 = .ok (.if_icmp .ge 97, 3) := by decide +kernel
theorem dX5_loadFirsts_18 : decode cX5_loadFirsts 18 = .ok (.aload_n 0, 1) := by decide +kernel
theorem dX5_loadFirsts_19 : decode cX5_loadFirsts 19 = .ok (.getfield 35, 3) := by decide +kernel
theorem dX5_loadFirsts_22 : decode cX5_loadFirsts 22 = .ok (.iload_n 3, 1) := by decide +kernel
theorem dX5_loadFirsts_23 : decode cX5_loadFirsts 23 = .ok (.iconst 0, 1) := by decide +kernel
theorem dX5_loadFirsts_24 : decode cX5_loadFirsts 24 = .ok (.iastore, 1) := by decide +kernel
theorem dX5_loadFirsts_25 : decode cX5_loadFirsts 25 = .ok (.iload_n 1, 1) := by decide +kernel
theorem dX5_loadFirsts_26 : decode cX5_loadFirsts 26 = .ok (.iload_n 3, 1) := by decide +kernel
theorem dX5_loadFirsts_27 : decode cX5_loadFirsts 27 = .ok (.ishr, 1) := by decide +kernel
theorem dX5_loadFirsts_28 : decode cX5_loadFirsts 28 = .ok (.iconst 1, 1) := by decide +kernel
theorem dX5_loadFirsts_29 : decode cX5_loadFirsts 29 = .ok (.iand, 1) := by decide +kernel
theorem dX5_loadFirsts_30 : decode cX5_loadFirsts 30 = .ok (.ifCond .eq 14, 3) := by decide +kernel
theorem dX5_loadFirsts_33 : decode cX5_loadFirsts 33 = .ok (.iload_n 2, 1) := by decide +kernel
theorem dX5_loadFirsts_34 : decode cX5_loadFirsts 34 = .ok (.aload_n 0, 1) := by decide +kernel
theorem dX5_loadFirsts_35 : decode cX5_loadFirsts 35 = .ok (.getfield 25, 3) := by decide +kernel
theorem dX5_loadFirsts_38 : decode cX5_loadFirsts 38 = .ok (.iload_n 3, 1) := by decide +kernel
theorem dX5_loadFirsts_39 : decode cX5_loadFirsts 39 = .ok (.iaload, 1) := by decide +kernel
theorem dX5_loadFirsts_40 : decode cX5_loadFirsts 40 = .ok (.iand, 1) := by decide +kernel
theorem dX5_loadFirsts_41 : decode cX5_loadFirsts 41 = .ok (.goto 4, 3) := by decide +kernel
theorem dX5_loadFirsts_44 : decode cX5_loadFirsts 44 = .ok (.iconst 0, 1) := by decide +kernel
theorem dX5_loadFirsts_45 : decode cX5_loadFirsts 45 = .ok (.istore 4, 2) := by decide +kernel
theorem dX5_loadFirsts_47 : decode cX5_loadFirsts 47 = .ok (.iconst 0, 1) := by decide +kernel
theorem dX5_loadFirsts_48 : decode cX5_loadFirsts 48 = .ok (.istore 5, 2) := by decide +kernel
theorem dX5_loadFirsts_50 : decode cX5_loadFirsts 50 = .ok (.iload 5, 2) := by decide +kernel
theorem dX5_loadFirsts_52 : decode cX5_loadFirsts 52 = .ok (.aload_n 0, 1) := by decide +kernel
theorem dX5_loadFirsts_53 : decode cX5_loadFirsts 53 = .ok (.getfield 24, 3) := by decide +kernel
theorem dX5_loadFirsts_56 : decode cX5_loadFirsts 56 = .ok (.getfield 97, 3) := by decide +kernel
theorem dX5_loadFirsts_59 : decode cX5_loadFirsts 59 = .ok (.if_icmp .ge 40, 3) := by decide +kernel
theorem dX5_loadFirsts_62 : decode cX5_loadFirsts 62 = .ok (.iload 4, 2) := by decide +kernel
theorem dX5_loadFirsts_64 : decode cX5_loadFirsts 64 = .ok (.iload 5, 2) := by decide +kernel
theorem dX5_loadFirsts_66 : decode cX5_loadFirsts 66 = .ok (.ishr, 1) := by decide +kernel
theorem dX5_loadFirsts_67 : decode cX5_loadFirsts 67 = .ok (.iconst 1, 1) := by decide +kernel
theorem dX5_loadFirsts_68 : decode cX5_loadFirsts 68 = .ok (.iand, 1) := by decide +kernel
theorem dX5_loadFirsts_69 : decode cX5_loadFirsts 69 = .ok (.ifCond .eq 24, 3) := by decide +kernel
theorem dX5_loadFirsts_72 : decode cX5_loadFirsts 72 = .ok (.aload_n 0, 1) := by decide +kernel
theorem dX5_loadFirsts_73 : decode cX5_loadFirsts 73 = .ok (.getfield 35, 3) := by decide +kernel
theorem dX5_loadFirsts_76 : decode cX5_loadFirsts 76 = .ok (.iload_n 3, 1) := by decide +kernel
theorem dX5_loadFirsts_77 : decode cX5_loadFirsts 77 = .ok (.dup2, 1) := by decide +kernel
theorem dX5_loadFirsts_78 : decode cX5_loadFirsts 78 = .ok (.iaload, 1) := by decide +kernel
theorem dX5_loadFirsts_79 : decode cX5_loadFirsts 79 = .ok (.aload_n 0, 1) := by decide +kernel
theorem dX5_loadFirsts_80 : decode cX5_loadFirsts 80 = .ok (.getfield 14, 3) := by decide +kernel
theorem dX5_loadFirsts_83 : decode cX5_loadFirsts 83 = .ok (.iload 5, 2) := by decide +kernel
theorem dX5_loadFirsts_85 : decode cX5_loadFirsts 85 = .ok (.iload_n 3, 1) := by decide +kernel
theorem dX5_loadFirsts_86 : decode cX5_loadFirsts 86 = .ok (.iconst 0, 1) := by decide +kernel
theorem dX5_loadFirsts_87 : decode cX5_loadFirsts 87 = .ok (.iconst 0, 1) := by decide +kernel
theorem dX5_loadFirsts_88 : decode cX5_loadFirsts 88 = .ok (.invokevirtual 103, 3) := by decide +kernel
theorem dX5_loadFirsts_91 : decode cX5_loadFirsts 91 = .ok (.iadd, 1) := by decide +kernel
theorem dX5_loadFirsts_92 : decode cX5_loadFirsts 92 = .ok (.iastore, 1) := by decide +kernel
theorem dX5_loadFirsts_93 : decode cX5_loadFirsts 93 = .ok (.iinc 5 1, 3) := by decide +kernel
theorem dX5_loadFirsts_96 : decode cX5_loadFirsts 96 = .ok (.goto (-46), 3) := by decide +kernel
theorem dX5_loadFirsts_99 : decode cX5_loadFirsts 99 = .ok (.iload_n 2, 1) := by decide +kernel
theorem dX5_loadFirsts_100 : decode cX5_loadFirsts 100 = .ok (.iload 4, 2) := by decide +kernel
theorem dX5_loadFirsts_102 : decode cX5_loadFirsts 102 = .ok (.iconst (-1), 1) := by decide +kernel
theorem dX5_loadFirsts_103 : decode cX5_loadFirsts 103 = .ok (.ixor, 1) := by decide +kernel
theorem dX5_loadFirsts_104 : decode cX5_loadFirsts 104 = .ok (.iand, 1) := by decide +kernel
theorem dX5_loadFirsts_105 : decode cX5_loadFirsts 105 = .ok (.istore_n 2, 1) := by decide +kernel
theorem dX5_loadFirsts_106 : decode cX5_loadFirsts 106 = .ok (.iinc 3 1, 3) := by decide +kernel
theorem dX5_loadFirsts_109 : decode cX5_loadFirsts 109 = .ok (.goto (-102), 3) := by decide +kernel
theorem dX5_loadFirsts_112 : decode cX5_loadFirsts 112 = .ok (.return_, 1) := by decide +kernel
theorem dX5_loadOf_0 : decode cX5_loadOf 0 = .ok (.iconst 0, 1) := by decide +kernel
theorem dX5_loadOf_1 : decode cX5_loadOf 1 = .ok (.istore_n 2, 1) := by decide +kernel
theorem dX5_loadOf_2 : decode cX5_loadOf 2 = .ok (.iconst 0, 1) := by decide +kernel
theorem dX5_loadOf_3 : decode cX5_loadOf 3 = .ok (.istore_n 3, 1) := by decide +kernel
theorem dX5_loadOf_4 : decode cX5_loadOf 4 = .ok (.iload_n 3, 1) := by decide +kernel
theorem dX5_loadOf_5 : decode cX5_loadOf 5 = .ok (.aload_n 0, 1) := by decide +kernel
theorem dX5_loadOf_6 : decode cX5_loadOf 6 = .ok (.getfield 24, 3) := by decide +kernel
theorem dX5_loadOf_9 : decode cX5_loadOf 9 = .ok (.getfield 64, 3) := by decide +kernel
theorem dX5_loadOf_12 : decode cX5_loadOf 12 = .ok (.if_icmp .ge 26, 3) := by decide +kernel
theorem dX5_loadOf_15 : decode cX5_loadOf 15 = .ok (.iload_n 1, 1) := by decide +kernel
theorem dX5_loadOf_16 : decode cX5_loadOf 16 = .ok (.iload_n 3, 1) := by decide +kernel
theorem dX5_loadOf_17 : decode cX5_loadOf 17 = .ok (.ishr, 1) := by decide +kernel
theorem dX5_loadOf_18 : decode cX5_loadOf 18 = .ok (.iconst 1, 1) := by decide +kernel
theorem dX5_loadOf_19 : decode cX5_loadOf 19 = .ok (.iand, 1) := by decide +kernel
theorem dX5_loadOf_20 : decode cX5_loadOf 20 = .ok (.ifCond .eq 12, 3) := by decide +kernel
theorem dX5_loadOf_23 : decode cX5_loadOf 23 = .ok (.iload_n 2, 1) := by decide +kernel
theorem dX5_loadOf_24 : decode cX5_loadOf 24 = .ok (.aload_n 0, 1) := by decide +kernel
theorem dX5_loadOf_25 : decode cX5_loadOf 25 = .ok (.getfield 35, 3) := by decide +kernel
