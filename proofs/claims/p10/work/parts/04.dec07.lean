theorem dX5_loadOf_28 : decode cX5_loadOf 28 = .ok (.iload_n 3, 1) := by decide +kernel
theorem dX5_loadOf_29 : decode cX5_loadOf 29 = .ok (.iaload, 1) := by decide +kernel
theorem dX5_loadOf_30 : decode cX5_loadOf 30 = .ok (.iadd, 1) := by decide +kernel
theorem dX5_loadOf_31 : decode cX5_loadOf 31 = .ok (.istore_n 2, 1) := by decide +kernel
theorem dX5_loadOf_32 : decode cX5_loadOf 32 = .ok (.iinc 3 1, 3) := by decide +kernel
theorem dX5_loadOf_35 : decode cX5_loadOf 35 = .ok (.goto (-31), 3) := by decide +kernel
theorem dX5_loadOf_38 : decode cX5_loadOf 38 = .ok (.iload_n 2, 1) := by decide +kernel
theorem dX5_loadOf_39 : decode cX5_loadOf 39 = .ok (.ireturn, 1) := by decide +kernel
theorem dX9_share_0 : decode cX9_share 0 = .ok (.aload_n 0, 1) := by decide +kernel
theorem dX9_share_1 : decode cX9_share 1 = .ok (.getfield 34, 3) := by decide +kernel
theorem dX9_share_4 : decode cX9_share 4 = .ok (.iload_n 1, 1) := by decide +kernel
theorem dX9_share_5 : decode cX9_share 5 = .ok (.invokevirtual 301, 3) := by decide +kernel
theorem dX9_share_8 : decode cX9_share 8 = .ok (.ifCond .ne 5, 3) := by decide +kernel
theorem dX9_share_11 : decode cX9_share 11 = .ok (.iconst (-1), 1) := by decide +kernel
theorem dX9_share_12 : decode cX9_share 12 = .ok (.ireturn, 1) := by decide +kernel
theorem dX9_share_13 : decode cX9_share 13 = .ok (.aload_n 0, 1) := by decide +kernel
theorem dX9_share_14 : decode cX9_share 14 = .ok (.getfield 19, 3) := by decide +kernel
theorem dX9_share_17 : decode cX9_share 17 = .ok (.invokevirtual 265, 3) := by decide +kernel
theorem dX9_share_20 : decode cX9_share 20 = .ok (.aload_n 0, 1) := by decide +kernel
theorem dX9_share_21 : decode cX9_share 21 = .ok (.getfield 19, 3) := by decide +kernel
theorem dX9_share_24 : decode cX9_share 24 = .ok (.iload_n 1, 1) := by decide +kernel
theorem dX9_share_25 : decode cX9_share 25 = .ok (.invokevirtual 379, 3) := by decide +kernel
theorem dX9_share_28 : decode cX9_share 28 = .ok (.aload_n 0, 1) := by decide +kernel
theorem dX9_share_29 : decode cX9_share 29 = .ok (.getfield 19, 3) := by decide +kernel
theorem dX9_share_32 : decode cX9_share 32 = .ok (.iload_n 1, 1) := by decide +kernel
theorem dX9_share_33 : decode cX9_share 33 = .ok (.invokevirtual 382, 3) := by decide +kernel
theorem dX9_share_36 : decode cX9_share 36 = .ok (.istore_n 2, 1) := by decide +kernel
theorem dX9_share_37 : decode cX9_share 37 = .ok (.iconst 0, 1) := by decide +kernel
theorem dX9_share_38 : decode cX9_share 38 = .ok (.istore_n 3, 1) := by decide +kernel
theorem dX9_share_39 : decode cX9_share 39 = .ok (.iload_n 2, 1) := by decide +kernel
theorem dX9_share_40 : decode cX9_share 40 = .ok (.istore 4, 2) := by decide +kernel
theorem dX9_share_42 : decode cX9_share 42 = .ok (.iconst 1, 1) := by decide +kernel
theorem dX9_share_43 : decode cX9_share 43 = .ok (.istore 5, 2) := by decide +kernel
theorem dX9_share_45 : decode cX9_share 45 = .ok (.iload 5, 2) := by decide +kernel
theorem dX9_share_47 : decode cX9_share 47 = .ok (.iload_n 1, 1) := by decide +kernel
theorem dX9_share_48 : decode cX9_share 48 = .ok (.if_icmp .gt 54, 3) := by decide +kernel
theorem dX9_share_51 : decode cX9_share 51 = .ok (.iload 5, 2) := by decide +kernel
theorem dX9_share_53 : decode cX9_share 53 = .ok (.iload_n 1, 1) := by decide +kernel
theorem dX9_share_54 : decode cX9_share 54 = .ok (.iconst (-1), 1) := by decide +kernel
theorem dX9_share_55 : decode cX9_share 55 = .ok (.ixor, 1) := by decide +kernel
theorem dX9_share_56 : decode cX9_share 56 = .ok (.iand, 1) := by decide +kernel
theorem dX9_share_57 : decode cX9_share 57 = .ok (.ifCond .ne 39, 3) := by decide +kernel
theorem dX9_share_60 : decode cX9_share 60 = .ok (.aload_n 0, 1) := by decide +kernel
theorem dX9_share_61 : decode cX9_share 61 = .ok (.getfield 19, 3) := by decide +kernel
theorem dX9_share_64 : decode cX9_share 64 = .ok (.iload 5, 2) := by decide +kernel
theorem dX9_share_66 : decode cX9_share 66 = .ok (.invokevirtual 382, 3) := by decide +kernel
theorem dX9_share_69 : decode cX9_share 69 = .ok (.istore 6, 2) := by decide +kernel
theorem dX9_share_71 : decode cX9_share 71 = .ok (.iload 6, 2) := by decide +kernel
theorem dX9_share_73 : decode cX9_share 73 = .ok (.iload_n 2, 1) := by decide +kernel
theorem dX9_share_74 : decode cX9_share 74 = .ok (.iload 6, 2) := by decide +kernel
theorem dX9_share_76 : decode cX9_share 76 = .ok (.isub, 1) := by decide +kernel
theorem dX9_share_77 : decode cX9_share 77 = .ok (.invokestatic 385, 3) := by decide +kernel
theorem dX9_share_80 : decode cX9_share 80 = .ok (.istore 7, 2) := by decide +kernel
theorem dX9_share_82 : decode cX9_share 82 = .ok (.iload 7, 2) := by decide +kernel
theorem dX9_share_84 : decode cX9_share 84 = .ok (.iload 4, 2) := by decide +kernel
theorem dX9_share_86 : decode cX9_share 86 = .ok (.if_icmp .ge 10, 3) := by decide +kernel
theorem dX9_share_89 : decode cX9_share 89 = .ok (.iload 5, 2) := by decide +kernel
theorem dX9_share_91 : decode cX9_share 91 = .ok (.istore_n 3, 1) := by decide +kernel
theorem dX9_share_92 : decode cX9_share 92 = .ok (.iload 7, 2) := by decide +kernel
theorem dX9_share_94 : decode cX9_share 94 = .ok (.istore 4, 2) := by decide +kernel
theorem dX9_share_96 : decode cX9_share 96 = .ok (.iinc 5 1, 3) := by decide +kernel
theorem dX9_share_99 : decode cX9_share 99 = .ok (.goto (-54), 3) := by decide +kernel
theorem dX9_share_102 : decode cX9_share 102 = .ok (.aload_n 0, 1) := by decide +kernel
theorem dX9_share_103 : decode cX9_share 103 = .ok (.iload_n 3, 1) := by decide +kernel
theorem dX9_share_104 : decode cX9_share 104 = .ok (.iload_n 2, 1) := by decide +kernel
theorem dX9_share_105 : decode cX9_share 105 = .ok (.aload_n 0, 1) := by decide +kernel
theorem dX9_share_106 : decode cX9_share 106 = .ok (.getfield 19, 3) := by decide +kernel
theorem dX9_share_109 : decode cX9_share 109 = .ok (.iload_n 3, 1) := by decide +kernel
theorem dX9_share_110 : decode cX9_share 110 = .ok (.invokevirtual 382, 3) := by decide +kernel
theorem dX9_share_113 : decode cX9_share 113 = .ok (.isub, 1) := by decide +kernel
theorem dX9_share_114 : decode cX9_share 114 = .ok (.invokevirtual 234, 3) := by decide +kernel
theorem dX9_share_117 : decode cX9_share 117 = .ok (.iload 4, 2) := by decide +kernel
theorem dX9_share_119 : decode cX9_share 119 = .ok (.ireturn, 1) := by decide +kernel
theorem dX0_ripeFirst_0 : decode cX0_ripeFirst 0 = .ok (.aload_n 0, 1) := by decide +kernel
theorem dX0_ripeFirst_1 : decode cX0_ripeFirst 1 = .ok (.invokevirtual 65, 3) := by decide +kernel
theorem dX0_ripeFirst_4 : decode cX0_ripeFirst 4 = .ok (.aload_n 0, 1) := by decide +kernel
theorem dX0_ripeFirst_5 : decode cX0_ripeFirst 5 = .ok (.getfield 12, 3) := by decide +kernel
theorem dX0_ripeFirst_8 : decode cX0_ripeFirst 8 = .ok (.iload_n 1, 1) := by decide +kernel
theorem dX0_ripeFirst_9 : decode cX0_ripeFirst 9 = .ok (.invokevirtual 71, 3) := by decide +kernel
theorem dX0_ripeFirst_12 : decode cX0_ripeFirst 12 = .ok (.iand, 1) := by decide +kernel
theorem dX0_ripeFirst_13 : decode cX0_ripeFirst 13 = .ok (.istore_n 2, 1) := by decide +kernel
theorem dX0_ripeFirst_14 : decode cX0_ripeFirst 14 = .ok (.iload_n 1, 1) := by decide +kernel
theorem dX0_ripeFirst_15 : decode cX0_ripeFirst 15 = .ok (.aload_n 0, 1) := by decide +kernel
theorem dX0_ripeFirst_16 : decode cX0_ripeFirst 16 = .ok (.getfield 21, 3) := by decide +kernel
theorem dX0_ripeFirst_19 : decode cX0_ripeFirst 19 = .ok (.getfield 68, 3) := by decide +kernel
theorem dX0_ripeFirst_22 : decode cX0_ripeFirst 22 = .ok (.if_icmp .le 20, 3) := by decide +kernel
theorem dX0_ripeFirst_25 : decode cX0_ripeFirst 25 = .ok (.iload_n 2, 1) := by decide +kernel
theorem dX0_ripeFirst_26 : decode cX0_ripeFirst 26 = .ok (.aload_n 0, 1) := by decide +kernel
theorem dX0_ripeFirst_27 : decode cX0_ripeFirst 27 = .ok (.getfield 12, 3) := by decide +kernel
theorem dX0_ripeFirst_30 : decode cX0_ripeFirst 30 = .ok (.iload_n 1, 1) := by decide +kernel
theorem dX0_ripeFirst_31 : decode cX0_ripeFirst 31 = .ok (.iconst 1, 1) := by decide +kernel
theorem dX0_ripeFirst_32 : decode cX0_ripeFirst 32 = .ok (.isub, 1) := by decide +kernel
theorem dX0_ripeFirst_33 : decode cX0_ripeFirst 33 = .ok (.invokevirtual 71, 3) := by decide +kernel
theorem dX0_ripeFirst_36 : decode cX0_ripeFirst 36 = .ok (.iconst (-1), 1) := by decide +kernel
theorem dX0_ripeFirst_37 : decode cX0_ripeFirst 37 = .ok (.ixor, 1) := by decide +kernel
theorem dX0_ripeFirst_38 : decode cX0_ripeFirst 38 = .ok (.iand, 1) := by decide +kernel
theorem dX0_ripeFirst_39 : decode cX0_ripeFirst 39 = .ok (.goto 4, 3) := by decide +kernel
theorem dX0_ripeFirst_42 : decode cX0_ripeFirst 42 = .ok (.iload_n 2, 1) := by decide +kernel
theorem dX0_ripeFirst_43 : decode cX0_ripeFirst 43 = .ok (.ireturn, 1) := by decide +kernel
theorem dX9_ripens_0 : decode cX9_ripens 0 = .ok (.aload_n 0, 1) := by decide +kernel
theorem dX9_ripens_1 : decode cX9_ripens 1 = .ok (.getfield 39, 3) := by decide +kernel
theorem dX9_ripens_4 : decode cX9_ripens 4 = .ok (.getfield 350, 3) := by decide +kernel
theorem dX9_ripens_7 : decode cX9_ripens 7 = .ok (.istore_n 1, 1) := by decide +kernel
theorem dX9_ripens_8 : decode cX9_ripens 8 = .ok (.iconst 0, 1) := by decide +kernel
theorem dX9_ripens_9 : decode cX9_ripens 9 = .ok (.istore_n 2, 1) := by decide +kernel
theorem dX9_ripens_10 : decode cX9_ripens 10 = .ok (.aload_n 0, 1) := by decide +kernel
theorem dX9_ripens_11 : decode cX9_ripens 11 = .ok (.getfield 39, 3) := by decide +kernel
theorem dX9_ripens_14 : decode cX9_ripens 14 = .ok (.getfield 350, 3) := by decide +kernel
theorem dX9_ripens_17 : decode cX9_ripens 17 = .ok (.istore_n 3, 1) := by decide +kernel
theorem dX9_ripens_18 : decode cX9_ripens 18 = .ok (.iload_n 3, 1) := by decide +kernel
theorem dX9_ripens_19 : decode cX9_ripens 19 = .ok (.bipush 9, 2) := by decide +kernel
theorem dX9_ripens_21 : decode cX9_ripens 21 = .ok (.if_icmp .gt 33, 3) := by decide +kernel
theorem dX9_ripens_24 : decode cX9_ripens 24 = .ok (.aload_n 0, 1) := by decide +kernel
theorem dX9_ripens_25 : decode cX9_ripens 25 = .ok (.getfield 27, 3) := by decide +kernel
theorem dX9_ripens_28 : decode cX9_ripens 28 = .ok (.iload_n 3, 1) := by decide +kernel
theorem dX9_ripens_29 : decode cX9_ripens 29 = .ok (.invokevirtual 390, 3) := by decide +kernel
theorem dX9_ripens_32 : decode cX9_ripens 32 = .ok (.invokestatic 292, 3) := by decide +kernel
theorem dX9_ripens_35 : decode cX9_ripens 35 = .ok (.istore 4, 2) := by decide +kernel
theorem dX9_ripens_37 : decode cX9_ripens 37 = .ok (.iload 4, 2) := by decide +kernel
theorem dX9_ripens_39 : decode cX9_ripens 39 = .ok (.iload_n 2, 1) := by decide +kernel
theorem dX9_ripens_40 : decode cX9_ripens 40 = .ok (.if_icmp .le 8, 3) := by decide +kernel
theorem dX9_ripens_43 : decode cX9_ripens 43 = .ok (.iload_n 3, 1) := by decide +kernel
theorem dX9_ripens_44 : decode cX9_ripens 44 = .ok (.istore_n 1, 1) := by decide +kernel
theorem dX9_ripens_45 : decode cX9_ripens 45 = .ok (.iload 4, 2) := by decide +kernel
theorem dX9_ripens_47 : decode cX9_ripens 47 = .ok (.istore_n 2, 1) := by decide +kernel
theorem dX9_ripens_48 : decode cX9_ripens 48 = .ok (.iinc 3 1, 3) := by decide +kernel
theorem dX9_ripens_51 : decode cX9_ripens 51 = .ok (.goto (-33), 3) := by decide +kernel
theorem dX9_ripens_54 : decode cX9_ripens 54 = .ok (.aload_n 0, 1) := by decide +kernel
theorem dX9_ripens_55 : decode cX9_ripens 55 = .ok (.getfield 19, 3) := by decide +kernel
theorem dX9_ripens_58 : decode cX9_ripens 58 = .ok (.aload_n 0, 1) := by decide +kernel
theorem dX9_ripens_59 : decode cX9_ripens 59 = .ok (.getfield 39, 3) := by decide +kernel
theorem dX9_ripens_62 : decode cX9_ripens 62 = .ok (.getfield 247, 3) := by decide +kernel
theorem dX9_ripens_65 : decode cX9_ripens 65 = .ok (.bipush 9, 2) := by decide +kernel
theorem dX9_ripens_67 : decode cX9_ripens 67 = .ok (.invokevirtual 353, 3) := by decide +kernel
theorem dX9_ripens_70 : decode cX9_ripens 70 = .ok (.aload_n 0, 1) := by decide +kernel
theorem dX9_ripens_71 : decode cX9_ripens 71 = .ok (.iload_n 1, 1) := by decide +kernel
theorem dX9_ripens_72 : decode cX9_ripens 72 = .ok (.aload_n 0, 1) := by decide +kernel
theorem dX9_ripens_73 : decode cX9_ripens 73 = .ok (.getfield 19, 3) := by decide +kernel
theorem dX9_ripens_76 : decode cX9_ripens 76 = .ok (.aload_n 0, 1) := by decide +kernel
theorem dX9_ripens_77 : decode cX9_ripens 77 = .ok (.getfield 19, 3) := by decide +kernel
theorem dX9_ripens_80 : decode cX9_ripens 80 = .ok (.getfield 274, 3) := by decide +kernel
theorem dX9_ripens_83 : decode cX9_ripens 83 = .ok (.aload_n 0, 1) := by decide +kernel
theorem dX9_ripens_84 : decode cX9_ripens 84 = .ok (.getfield 34, 3) := by decide +kernel
theorem dX9_ripens_87 : decode cX9_ripens 87 = .ok (.invokevirtual 277, 3) := by decide +kernel
theorem dX9_ripens_90 : decode cX9_ripens 90 = .ok (.invokevirtual 280, 3) := by decide +kernel
theorem dX9_ripens_93 : decode cX9_ripens 93 = .ok (.invokestatic 292, 3) := by decide +kernel
theorem dX9_ripens_96 : decode cX9_ripens 96 = .ok (.invokevirtual 234, 3) := by decide +kernel
theorem dX9_ripens_99 : decode cX9_ripens 99 = .ok (.iload_n 2, 1) := by decide +kernel
theorem dX9_ripens_100 : decode cX9_ripens 100 = .ok (.ireturn, 1) := by decide +kernel
theorem dX9_ondays_0 : decode cX9_ondays 0 = .ok (.iload_n 1, 1) := by decide +kernel
theorem dX9_ondays_1 : decode cX9_ondays 1 = .ok (.aload_n 0, 1) := by decide +kernel
theorem dX9_ondays_2 : decode cX9_ondays 2 = .ok (.getfield 39, 3) := by decide +kernel
theorem dX9_ondays_5 : decode cX9_ondays 5 = .ok (.getfield 350, 3) := by decide +kernel
theorem dX9_ondays_8 : decode cX9_ondays 8 = .ok (.if_icmp .lt 9, 3) := by decide +kernel
theorem dX9_ondays_11 : decode cX9_ondays 11 = .ok (.iload_n 1, 1) := by decide +kernel
theorem dX9_ondays_12 : decode cX9_ondays 12 = .ok (.bipush 9, 2) := by decide +kernel
theorem dX9_ondays_14 : decode cX9_ondays 14 = .ok (.if_icmp .le 5, 3) := by decide +kernel
theorem dX9_ondays_17 : decode cX9_ondays 17 = .ok (.iconst (-1), 1) := by decide +kernel
theorem dX9_ondays_18 : decode cX9_ondays 18 = .ok (.ireturn, 1) := by decide +kernel
theorem dX9_ondays_19 : decode cX9_ondays 19 = .ok (.aload_n 0, 1) := by decide +kernel
theorem dX9_ondays_20 : decode cX9_ondays 20 = .ok (.getfield 19, 3) := by decide +kernel
theorem dX9_ondays_23 : decode cX9_ondays 23 = .ok (.invokevirtual 265, 3) := by decide +kernel
theorem dX9_ondays_26 : decode cX9_ondays 26 = .ok (.aload_n 0, 1) := by decide +kernel
theorem dX9_ondays_27 : decode cX9_ondays 27 = .ok (.getfield 27, 3) := by decide +kernel
theorem dX9_ondays_30 : decode cX9_ondays 30 = .ok (.iload_n 1, 1) := by decide +kernel
theorem dX9_ondays_31 : decode cX9_ondays 31 = .ok (.invokevirtual 390, 3) := by decide +kernel
theorem dX9_ondays_34 : decode cX9_ondays 34 = .ok (.aload_n 0, 1) := by decide +kernel
theorem dX9_ondays_35 : decode cX9_ondays 35 = .ok (.getfield 19, 3) := by decide +kernel
theorem dX9_ondays_38 : decode cX9_ondays 38 = .ok (.aload_n 0, 1) := by decide +kernel
theorem dX9_ondays_39 : decode cX9_ondays 39 = .ok (.getfield 34, 3) := by decide +kernel
theorem dX9_ondays_42 : decode cX9_ondays 42 = .ok (.invokevirtual 277, 3) := by decide +kernel
theorem dX9_ondays_45 : decode cX9_ondays 45 = .ok (.invokevirtual 286, 3) := by decide +kernel
theorem dX9_ondays_48 : decode cX9_ondays 48 = .ok (.iand, 1) := by decide +kernel
theorem dX9_ondays_49 : decode cX9_ondays 49 = .ok (.istore_n 2, 1) := by decide +kernel
theorem dX9_ondays_50 : decode cX9_ondays 50 = .ok (.aload_n 0, 1) := by decide +kernel
theorem dX9_ondays_51 : decode cX9_ondays 51 = .ok (.aload_n 0, 1) := by decide +kernel
theorem dX9_ondays_52 : decode cX9_ondays 52 = .ok (.getfield 19, 3) := by decide +kernel
theorem dX9_ondays_55 : decode cX9_ondays 55 = .ok (.iload_n 2, 1) := by decide +kernel
theorem dX9_ondays_56 : decode cX9_ondays 56 = .ok (.aload_n 0, 1) := by decide +kernel
theorem dX9_ondays_57 : decode cX9_ondays 57 = .ok (.getfield 34, 3) := by decide +kernel
theorem dX9_ondays_60 : decode cX9_ondays 60 = .ok (.invokevirtual 277, 3) := by decide +kernel
theorem dX9_ondays_63 : decode cX9_ondays 63 = .ok (.invokevirtual 280, 3) := by decide +kernel
theorem dX9_ondays_66 : decode cX9_ondays 66 = .ok (.invokevirtual 283, 3) := by decide +kernel
theorem dX9_ondays_69 : decode cX9_ondays 69 = .ok (.ireturn, 1) := by decide +kernel
theorem dX9_allripe_0 : decode cX9_allripe 0 = .ok (.aload_n 0, 1) := by decide +kernel
theorem dX9_allripe_1 : decode cX9_allripe 1 = .ok (.getfield 27, 3) := by decide +kernel
theorem dX9_allripe_4 : decode cX9_allripe 4 = .ok (.invokevirtual 143, 3) := by decide +kernel
theorem dX9_allripe_7 : decode cX9_allripe 7 = .ok (.istore_n 1, 1) := by decide +kernel
theorem dX9_allripe_8 : decode cX9_allripe 8 = .ok (.iload_n 1, 1) := by decide +kernel
theorem dX9_allripe_9 : decode cX9_allripe 9 = .ok (.aload_n 0, 1) := by decide +kernel
theorem dX9_allripe_10 : decode cX9_allripe 10 = .ok (.getfield 34, 3) := by decide +kernel
theorem dX9_allripe_13 : decode cX9_allripe 13 = .ok (.aload_n 0, 1) := by decide +kernel
theorem dX9_allripe_14 : decode cX9_allripe 14 = .ok (.getfield 39, 3) := by decide +kernel
theorem dX9_allripe_17 : decode cX9_allripe 17 = .ok (.getfield 350, 3) := by decide +kernel
theorem dX9_allripe_20 : decode cX9_allripe 20 = .ok (.invokevirtual 356, 3) := by decide +kernel
theorem dX9_allripe_23 : decode cX9_allripe 23 = .ok (.iconst (-1), 1) := by decide +kernel
theorem dX9_allripe_24 : decode cX9_allripe 24 = .ok (.ixor, 1) := by decide +kernel
theorem dX9_allripe_25 : decode cX9_allripe 25 = .ok (.iand, 1) := by decide +kernel
theorem dX9_allripe_26 : decode cX9_allripe 26 = .ok (.istore_n 2, 1) := by decide +kernel
theorem dX9_allripe_27 : decode cX9_allripe 27 = .ok (.aload_n 0, 1) := by decide +kernel
theorem dX9_allripe_28 : decode cX9_allripe 28 = .ok (.getfield 39, 3) := by decide +kernel
theorem dX9_allripe_31 : decode cX9_allripe 31 = .ok (.getfield 350, 3) := by decide +kernel
theorem dX9_allripe_34 : decode cX9_allripe 34 = .ok (.istore_n 3, 1) := by decide +kernel
theorem dX9_allripe_35 : decode cX9_allripe 35 = .ok (.iload_n 3, 1) := by decide +kernel
theorem dX9_allripe_36 : decode cX9_allripe 36 = .ok (.bipush 9, 2) := by decide +kernel
theorem dX9_allripe_38 : decode cX9_allripe 38 = .ok (.if_icmp .ge 24, 3) := by decide +kernel
theorem dX9_allripe_41 : decode cX9_allripe 41 = .ok (.iload_n 1, 1) := by decide +kernel
theorem dX9_allripe_42 : decode cX9_allripe 42 = .ok (.aload_n 0, 1) := by decide +kernel
theorem dX9_allripe_43 : decode cX9_allripe 43 = .ok (.getfield 34, 3) := by decide +kernel
theorem dX9_allripe_46 : decode cX9_allripe 46 = .ok (.iload_n 3, 1) := by decide +kernel
theorem dX9_allripe_47 : decode cX9_allripe 47 = .ok (.invokevirtual 356, 3) := by decide +kernel
theorem dX9_allripe_50 : decode cX9_allripe 50 = .ok (.iconst (-1), 1) := by decide +kernel
theorem dX9_allripe_51 : decode cX9_allripe 51 = .ok (.ixor, 1) := by decide +kernel
theorem dX9_allripe_52 : decode cX9_allripe 52 = .ok (.iand, 1) := by decide +kernel
theorem dX9_allripe_53 : decode cX9_allripe 53 = .ok (.ifCond .eq 9, 3) := by decide +kernel
theorem dX9_allripe_56 : decode cX9_allripe 56 = .ok (.iinc 3 1, 3) := by decide +kernel
theorem dX9_allripe_59 : decode cX9_allripe 59 = .ok (.goto (-24), 3) := by decide +kernel
theorem dX9_allripe_62 : decode cX9_allripe 62 = .ok (.aload_n 0, 1) := by decide +kernel
theorem dX9_allripe_63 : decode cX9_allripe 63 = .ok (.iload_n 2, 1) := by decide +kernel
theorem dX9_allripe_64 : decode cX9_allripe 64 = .ok (.invokestatic 292, 3) := by decide +kernel
theorem dX9_allripe_67 : decode cX9_allripe 67 = .ok (.aload_n 0, 1) := by decide +kernel
theorem dX9_allripe_68 : decode cX9_allripe 68 = .ok (.getfield 27, 3) := by decide +kernel
theorem dX9_allripe_71 : decode cX9_allripe 71 = .ok (.iload_n 2, 1) := by decide +kernel
theorem dX9_allripe_72 : decode cX9_allripe 72 = .ok (.invokevirtual 257, 3) := by decide +kernel
theorem dX9_allripe_75 : decode cX9_allripe 75 = .ok (.invokevirtual 234, 3) := by decide +kernel
theorem dX9_allripe_78 : decode cX9_allripe 78 = .ok (.iload_n 3, 1) := by decide +kernel
theorem dX9_allripe_79 : decode cX9_allripe 79 = .ok (.ireturn, 1) := by decide +kernel
theorem dX3_standingsAt_0 : decode cX3_standingsAt 0 = .ok (.iconst 0, 1) := by decide +kernel
theorem dX3_standingsAt_1 : decode cX3_standingsAt 1 = .ok (.istore_n 3, 1) := by decide +kernel
theorem dX3_standingsAt_2 : decode cX3_standingsAt 2 = .ok (.iconst 0, 1) := by decide +kernel
theorem dX3_standingsAt_3 : decode cX3_standingsAt 3 = .ok (.istore 4, 2) := by decide +kernel
theorem dX3_standingsAt_5 : decode cX3_standingsAt 5 = .ok (.iload 4, 2) := by decide +kernel
theorem dX3_standingsAt_7 : decode cX3_standingsAt 7 = .ok (.aload_n 0, 1) := by decide +kernel
theorem dX3_standingsAt_8 : decode cX3_standingsAt 8 = .ok (.getfield 37, 3) := by decide +kernel
theorem dX3_standingsAt_11 : decode cX3_standingsAt 11 = .ok (.if_icmp .ge 32, 3) := by decide +kernel
theorem dX3_standingsAt_14 : decode cX3_standingsAt 14 = .ok (.aload_n 0, 1) := by decide +kernel
theorem dX3_standingsAt_15 : decode cX3_standingsAt 15 = .ok (.getfield 24, 3) := by decide +kernel
theorem dX3_standingsAt_18 : decode cX3_standingsAt 18 = .ok (.iload 4, 2) := by decide +kernel
theorem dX3_standingsAt_20 : decode cX3_standingsAt 20 = .ok (.iaload, 1) := by decide +kernel
theorem dX3_standingsAt_21 : decode cX3_standingsAt 21 = .ok (.iload_n 1, 1) := by decide +kernel
theorem dX3_standingsAt_22 : decode cX3_standingsAt 22 = .ok (.isub, 1) := by decide +kernel
theorem dX3_standingsAt_23 : decode cX3_standingsAt 23 = .ok (.invokestatic 89, 3) := by decide +kernel
theorem dX3_standingsAt_26 : decode cX3_standingsAt 26 = .ok (.iload_n 2, 1) := by decide +kernel
theorem dX3_standingsAt_27 : decode cX3_standingsAt 27 = .ok (.if_icmp .gt 10, 3) := by decide +kernel
theorem dX3_standingsAt_30 : decode cX3_standingsAt 30 = .ok (.iload_n 3, 1) := by decide +kernel
theorem dX3_standingsAt_31 : decode cX3_standingsAt 31 = .ok (.iconst 1, 1) := by decide +kernel
theorem dX3_standingsAt_32 : decode cX3_standingsAt 32 = .ok (.iload 4, 2) := by decide +kernel
theorem dX3_standingsAt_34 : decode cX3_standingsAt 34 = .ok (.ishl, 1) := by decide +kernel
theorem dX3_standingsAt_35 : decode cX3_standingsAt 35 = .ok (.ior, 1) := by decide +kernel
theorem dX3_standingsAt_36 : decode cX3_standingsAt 36 = .ok (.istore_n 3, 1) := by decide +kernel
theorem dX3_standingsAt_37 : decode cX3_standingsAt 37 = .ok (.iinc 4 1, 3) := by decide +kernel
theorem dX3_standingsAt_40 : decode cX3_standingsAt 40 = .ok (.goto (-35), 3) := by decide +kernel
theorem dX3_standingsAt_43 : decode cX3_standingsAt 43 = .ok (.iload_n 3, 1) := by decide +kernel
theorem dX3_standingsAt_44 : decode cX3_standingsAt 44 = .ok (.ireturn, 1) := by decide +kernel
theorem dX9_marks_0 : decode cX9_marks 0 = .ok (.iload_n 1, 1) := by decide +kernel
theorem dX9_marks_1 : decode cX9_marks 1 = .ok (.ifCond .lt 19, 3) := by decide +kernel
theorem dX9_marks_4 : decode cX9_marks 4 = .ok (.iload_n 1, 1) := by decide +kernel
theorem dX9_marks_5 : decode cX9_marks 5 = .ok (.bipush 99, 2) := by decide +kernel
theorem dX9_marks_7 : decode cX9_marks 7 = .ok (.if_icmp .gt 13, 3) := by decide +kernel
theorem dX9_marks_10 : decode cX9_marks 10 = .ok (.iload_n 2, 1) := by decide +kernel
theorem dX9_marks_11 : decode cX9_marks 11 = .ok (.ifCond .lt 9, 3) := by decide +kernel
theorem dX9_marks_14 : decode cX9_marks 14 = .ok (.iload_n 2, 1) := by decide +kernel
theorem dX9_marks_15 : decode cX9_marks 15 = .ok (.bipush 99, 2) := by decide +kernel
theorem dX9_marks_17 : decode cX9_marks 17 = .ok (.if_icmp .le 5, 3) := by decide +kernel
theorem dX9_marks_20 : decode cX9_marks 20 = .ok (.iconst (-1), 1) := by decide +kernel
theorem dX9_marks_21 : decode cX9_marks 21 = .ok (.ireturn, 1) := by decide +kernel
theorem dX9_marks_22 : decode cX9_marks 22 = .ok (.aload_n 0, 1) := by decide +kernel
theorem dX9_marks_23 : decode cX9_marks 23 = .ok (.getfield 34, 3) := by decide +kernel
theorem dX9_marks_26 : decode cX9_marks 26 = .ok (.iload_n 1, 1) := by decide +kernel
theorem dX9_marks_27 : decode cX9_marks 27 = .ok (.iload_n 2, 1) := by decide +kernel
theorem dX9_marks_28 : decode cX9_marks 28 = .ok (.invokevirtual 393, 3) := by decide +kernel
theorem dX9_marks_31 : decode cX9_marks 31 = .ok (.ireturn, 1) := by decide +kernel
theorem dX1_readAll_0 : decode cX1_readAll 0 = .ok (.aload_n 0, 1) := by decide +kernel
theorem dX1_readAll_1 : decode cX1_readAll 1 = .ok (.iconst 0, 1) := by decide +kernel
theorem dX1_readAll_2 : decode cX1_readAll 2 = .ok (.putfield 18, 3) := by decide +kernel
theorem dX1_readAll_5 : decode cX1_readAll 5 = .ok (.aload_n 0, 1) := by decide +kernel
theorem dX1_readAll_6 : decode cX1_readAll 6 = .ok (.getfield 18, 3) := by decide +kernel
theorem dX1_readAll_9 : decode cX1_readAll 9 = .ok (.bipush 6, 2) := by decide +kernel
theorem dX1_readAll_11 : decode cX1_readAll 11 = .ok (.if_icmp .ge 63, 3) := by decide +kernel
theorem dX1_readAll_14 : decode cX1_readAll 14 = .ok (.aload_n 1, 1) := by decide +kernel
theorem dX1_readAll_15 : decode cX1_readAll 15 = .ok (.iconst 2, 1) := by decide +kernel
theorem dX1_readAll_16 : decode cX1_readAll 16 = .ok (.invokevirtual 22, 3) := by decide +kernel
theorem dX1_readAll_19 : decode cX1_readAll 19 = .ok (.istore_n 2, 1) := by decide +kernel
theorem dX1_readAll_20 : decode cX1_readAll 20 = .ok (.iload_n 2, 1) := by decide +kernel
theorem dX1_readAll_21 : decode cX1_readAll 21 = .ok (.iconst (-1), 1) := by decide +kernel
theorem dX1_readAll_22 : decode cX1_readAll 22 = .ok (.if_icmp .ne 5, 3) := by decide +kernel
theorem dX1_readAll_25 : decode cX1_readAll 25 = .ok (.iconst 0, 1) := by decide +kernel
theorem dX1_readAll_26 : decode cX1_readAll 26 = .ok (.ireturn, 1) := by decide +kernel
theorem dX1_readAll_27 : decode cX1_readAll 27 = .ok (.aload_n 0, 1) := by decide +kernel
theorem dX1_readAll_28 : decode cX1_readAll 28 = .ok (.getfield 9, 3) := by decide +kernel
theorem dX1_readAll_31 : decode cX1_readAll 31 = .ok (.aload_n 0, 1) := by decide +kernel
theorem dX1_readAll_32 : decode cX1_readAll 32 = .ok (.getfield 18, 3) := by decide +kernel
theorem dX1_readAll_35 : decode cX1_readAll 35 = .ok (.iload_n 2, 1) := by decide +kernel
theorem dX1_readAll_36 : decode cX1_readAll 36 = .ok (.iastore, 1) := by decide +kernel
theorem dX1_readAll_37 : decode cX1_readAll 37 = .ok (.aload_n 1, 1) := by decide +kernel
theorem dX1_readAll_38 : decode cX1_readAll 38 = .ok (.bipush 44, 2) := by decide +kernel
theorem dX1_readAll_40 : decode cX1_readAll 40 = .ok (.invokevirtual 28, 3) := by decide +kernel
theorem dX1_readAll_43 : decode cX1_readAll 43 = .ok (.ifCond .ne 18, 3) := by decide +kernel
theorem dX1_readAll_46 : decode cX1_readAll 46 = .ok (.aload_n 0, 1) := by decide +kernel
theorem dX1_readAll_47 : decode cX1_readAll 47 = .ok (.dup, 1) := by decide +kernel
theorem dX1_readAll_48 : decode cX1_readAll 48 = .ok (.getfield 18, 3) := by decide +kernel
theorem dX1_readAll_51 : decode cX1_readAll 51 = .ok (.iconst 1, 1) := by decide +kernel
theorem dX1_readAll_52 : decode cX1_readAll 52 = .ok (.iadd, 1) := by decide +kernel
theorem dX1_readAll_53 : decode cX1_readAll 53 = .ok (.putfield 18, 3) := by decide +kernel
theorem dX1_readAll_56 : decode cX1_readAll 56 = .ok (.aload_n 1, 1) := by decide +kernel
theorem dX1_readAll_57 : decode cX1_readAll 57 = .ok (.invokevirtual 32, 3) := by decide +kernel
theorem dX1_readAll_60 : decode cX1_readAll 60 = .ok (.ireturn, 1) := by decide +kernel
theorem dX1_readAll_61 : decode cX1_readAll 61 = .ok (.aload_n 0, 1) := by decide +kernel
theorem dX1_readAll_62 : decode cX1_readAll 62 = .ok (.dup, 1) := by decide +kernel
theorem dX1_readAll_63 : decode cX1_readAll 63 = .ok (.getfield 18, 3) := by decide +kernel
theorem dX1_readAll_66 : decode cX1_readAll 66 = .ok (.iconst 1, 1) := by decide +kernel
theorem dX1_readAll_67 : decode cX1_readAll 67 = .ok (.iadd, 1) := by decide +kernel
theorem dX1_readAll_68 : decode cX1_readAll 68 = .ok (.putfield 18, 3) := by decide +kernel
theorem dX1_readAll_71 : decode cX1_readAll 71 = .ok (.goto (-66), 3) := by decide +kernel
theorem dX1_readAll_74 : decode cX1_readAll 74 = .ok (.iconst 0, 1) := by decide +kernel
theorem dX1_readAll_75 : decode cX1_readAll 75 = .ok (.ireturn, 1) := by decide +kernel
theorem dX1_countRows_0 : decode cX1_countRows 0 = .ok (.iconst 0, 1) := by decide +kernel
theorem dX1_countRows_1 : decode cX1_countRows 1 = .ok (.istore_n 3, 1) := by decide +kernel
theorem dX1_countRows_2 : decode cX1_countRows 2 = .ok (.aload_n 0, 1) := by decide +kernel
theorem dX1_countRows_3 : decode cX1_countRows 3 = .ok (.getfield 18, 3) := by decide +kernel
theorem dX1_countRows_6 : decode cX1_countRows 6 = .ok (.iconst 1, 1) := by decide +kernel
theorem dX1_countRows_7 : decode cX1_countRows 7 = .ok (.isub, 1) := by decide +kernel
theorem dX1_countRows_8 : decode cX1_countRows 8 = .ok (.istore 4, 2) := by decide +kernel
theorem dX1_countRows_10 : decode cX1_countRows 10 = .ok (.iload 4, 2) := by decide +kernel
theorem dX1_countRows_12 : decode cX1_countRows 12 = .ok (.ifCond .lt 112, 3) := by decide +kernel
theorem dX1_countRows_15 : decode cX1_countRows 15 = .ok (.aload_n 1, 1) := by decide +kernel
theorem dX1_countRows_16 : decode cX1_countRows 16 = .ok (.aload_n 0, 1) := by decide +kernel
theorem dX1_countRows_17 : decode cX1_countRows 17 = .ok (.getfield 9, 3) := by decide +kernel
theorem dX1_countRows_20 : decode cX1_countRows 20 = .ok (.iload 4, 2) := by decide +kernel
theorem dX1_countRows_22 : decode cX1_countRows 22 = .ok (.iaload, 1) := by decide +kernel
theorem dX1_countRows_23 : decode cX1_countRows 23 = .ok (.iload_n 2, 1) := by decide +kernel
theorem dX1_countRows_24 : decode cX1_countRows 24 = .ok (.invokevirtual 36, 3) := by decide +kernel
theorem dX1_countRows_27 : decode cX1_countRows 27 = .ok (.istore 5, 2) := by decide +kernel
theorem dX1_countRows_29 : decode cX1_countRows 29 = .ok (.iload_n 3, 1) := by decide +kernel
theorem dX1_countRows_30 : decode cX1_countRows 30 = .ok (.istore 6, 2) := by decide +kernel
theorem dX1_countRows_32 : decode cX1_countRows 32 = .ok (.iconst 0, 1) := by decide +kernel
theorem dX1_countRows_33 : decode cX1_countRows 33 = .ok (.istore_n 3, 1) := by decide +kernel
theorem dX1_countRows_34 : decode cX1_countRows 34 = .ok (.iconst 0, 1) := by decide +kernel
theorem dX1_countRows_35 : decode cX1_countRows 35 = .ok (.istore 7, 2) := by decide +kernel
theorem dX1_countRows_37 : decode cX1_countRows 37 = .ok (.iload 7, 2) := by decide +kernel
theorem dX1_countRows_39 : decode cX1_countRows 39 = .ok (.bipush 8, 2) := by decide +kernel
theorem dX1_countRows_41 : decode cX1_countRows 41 = .ok (.if_icmp .ge 77, 3) := by decide +kernel
theorem dX1_countRows_44 : decode cX1_countRows 44 = .ok (.iconst 0, 1) := by decide +kernel
theorem dX1_countRows_45 : decode cX1_countRows 45 = .ok (.istore 8, 2) := by decide +kernel
theorem dX1_countRows_47 : decode cX1_countRows 47 = .ok (.iload 5, 2) := by decide +kernel
theorem dX1_countRows_49 : decode cX1_countRows 49 = .ok (.iload 7, 2) := by decide +kernel
theorem dX1_countRows_51 : decode cX1_countRows 51 = .ok (.ishr, 1) := by decide +kernel
theorem dX1_countRows_52 : decode cX1_countRows 52 = .ok (.iconst 1, 1) := by decide +kernel
theorem dX1_countRows_53 : decode cX1_countRows 53 = .ok (.iand, 1) := by decide +kernel
theorem dX1_countRows_54 : decode cX1_countRows 54 = .ok (.ifCond .eq 38, 3) := by decide +kernel
theorem dX1_countRows_57 : decode cX1_countRows 57 = .ok (.iload 4, 2) := by decide +kernel
theorem dX1_countRows_59 : decode cX1_countRows 59 = .ok (.aload_n 0, 1) := by decide +kernel
theorem dX1_countRows_60 : decode cX1_countRows 60 = .ok (.getfield 18, 3) := by decide +kernel
theorem dX1_countRows_63 : decode cX1_countRows 63 = .ok (.iconst 1, 1) := by decide +kernel
theorem dX1_countRows_64 : decode cX1_countRows 64 = .ok (.isub, 1) := by decide +kernel
theorem dX1_countRows_65 : decode cX1_countRows 65 = .ok (.if_icmp .ne 7, 3) := by decide +kernel
theorem dX1_countRows_68 : decode cX1_countRows 68 = .ok (.iconst 1, 1) := by decide +kernel
theorem dX1_countRows_69 : decode cX1_countRows 69 = .ok (.goto 21, 3) := by decide +kernel
theorem dX1_countRows_72 : decode cX1_countRows 72 = .ok (.iload 6, 2) := by decide +kernel
theorem dX1_countRows_74 : decode cX1_countRows 74 = .ok (.aload_n 0, 1) := by decide +kernel
theorem dX1_countRows_75 : decode cX1_countRows 75 = .ok (.getfield 15, 3) := by decide +kernel
theorem dX1_countRows_78 : decode cX1_countRows 78 = .ok (.iload 4, 2) := by decide +kernel
theorem dX1_countRows_80 : decode cX1_countRows 80 = .ok (.iconst 1, 1) := by decide +kernel
theorem dX1_countRows_81 : decode cX1_countRows 81 = .ok (.iadd, 1) := by decide +kernel
theorem dX1_countRows_82 : decode cX1_countRows 82 = .ok (.bipush 8, 2) := by decide +kernel
theorem dX1_countRows_84 : decode cX1_countRows 84 = .ok (.imul, 1) := by decide +kernel
theorem dX1_countRows_85 : decode cX1_countRows 85 = .ok (.iload 7, 2) := by decide +kernel
theorem dX1_countRows_87 : decode cX1_countRows 87 = .ok (.iadd, 1) := by decide +kernel
theorem dX1_countRows_88 : decode cX1_countRows 88 = .ok (.iaload, 1) := by decide +kernel
theorem dX1_countRows_89 : decode cX1_countRows 89 = .ok (.isub, 1) := by decide +kernel
theorem dX1_countRows_90 : decode cX1_countRows 90 = .ok (.istore 8, 2) := by decide +kernel
theorem dX1_countRows_92 : decode cX1_countRows 92 = .ok (.aload_n 0, 1) := by decide +kernel
theorem dX1_countRows_93 : decode cX1_countRows 93 = .ok (.getfield 15, 3) := by decide +kernel
theorem dX1_countRows_96 : decode cX1_countRows 96 = .ok (.iload 4, 2) := by decide +kernel
theorem dX1_countRows_98 : decode cX1_countRows 98 = .ok (.bipush 8, 2) := by decide +kernel
theorem dX1_countRows_100 : decode cX1_countRows 100 = .ok (.imul, 1) := by decide +kernel
theorem dX1_countRows_101 : decode cX1_countRows 101 = .ok (.iload 7, 2) := by decide +kernel
theorem dX1_countRows_103 : decode cX1_countRows 103 = .ok (.iadd, 1) := by decide +kernel
theorem dX1_countRows_104 : decode cX1_countRows 104 = .ok (.iload 8, 2) := by decide +kernel
theorem dX1_countRows_106 : decode cX1_countRows 106 = .ok (.iastore, 1) := by decide +kernel
theorem dX1_countRows_107 : decode cX1_countRows 107 = .ok (.iload_n 3, 1) := by decide +kernel
theorem dX1_countRows_108 : decode cX1_countRows 108 = .ok (.iload 8, 2) := by decide +kernel
theorem dX1_countRows_110 : decode cX1_countRows 110 = .ok (.iadd, 1) := by decide +kernel
theorem dX1_countRows_111 : decode cX1_countRows 111 = .ok (.istore_n 3, 1) := by decide +kernel
theorem dX1_countRows_112 : decode cX1_countRows 112 = .ok (.iinc 7 1, 3) := by decide +kernel
theorem dX1_countRows_115 : decode cX1_countRows 115 = .ok (.goto (-78), 3) := by decide +kernel
theorem dX1_countRows_118 : decode cX1_countRows 118 = .ok (.iinc 4 (-1), 3) := by decide +kernel
theorem dX1_countRows_121 : decode cX1_countRows 121 = .ok (.goto (-111), 3) := by decide +kernel
theorem dX1_countRows_124 : decode cX1_countRows 124 = .ok (.iload_n 3, 1) := by decide +kernel
theorem dX1_countRows_125 : decode cX1_countRows 125 = .ok (.ireturn, 1) := by decide +kernel
theorem dX1_firstFor_0 : decode cX1_firstFor 0 = .ok (.iconst 0, 1) := by decide +kernel
theorem dX1_firstFor_1 : decode cX1_firstFor 1 = .ok (.istore_n 3, 1) := by decide +kernel
theorem dX1_firstFor_2 : decode cX1_firstFor 2 = .ok (.iload_n 3, 1) := by decide +kernel
theorem dX1_firstFor_3 : decode cX1_firstFor 3 = .ok (.bipush 8, 2) := by decide +kernel
theorem dX1_firstFor_5 : decode cX1_firstFor 5 = .ok (.if_icmp .ge 30, 3) := by decide +kernel
theorem dX1_firstFor_8 : decode cX1_firstFor 8 = .ok (.iload_n 3, 1) := by decide +kernel
theorem dX1_firstFor_9 : decode cX1_firstFor 9 = .ok (.iload_n 2, 1) := by decide +kernel
theorem dX1_firstFor_10 : decode cX1_firstFor 10 = .ok (.if_icmp .eq 19, 3) := by decide +kernel
theorem dX1_firstFor_13 : decode cX1_firstFor 13 = .ok (.aload_n 0, 1) := by decide +kernel
theorem dX1_firstFor_14 : decode cX1_firstFor 14 = .ok (.getfield 15, 3) := by decide +kernel
theorem dX1_firstFor_17 : decode cX1_firstFor 17 = .ok (.iload_n 1, 1) := by decide +kernel
theorem dX1_firstFor_18 : decode cX1_firstFor 18 = .ok (.bipush 8, 2) := by decide +kernel
theorem dX1_firstFor_20 : decode cX1_firstFor 20 = .ok (.imul, 1) := by decide +kernel
theorem dX1_firstFor_21 : decode cX1_firstFor 21 = .ok (.iload_n 3, 1) := by decide +kernel
theorem dX1_firstFor_22 : decode cX1_firstFor 22 = .ok (.iadd, 1) := by decide +kernel
theorem dX1_firstFor_23 : decode cX1_firstFor 23 = .ok (.iaload, 1) := by decide +kernel
theorem dX1_firstFor_24 : decode cX1_firstFor 24 = .ok (.ifCond .le 5, 3) := by decide +kernel
theorem dX1_firstFor_27 : decode cX1_firstFor 27 = .ok (.iload_n 3, 1) := by decide +kernel
theorem dX1_firstFor_28 : decode cX1_firstFor 28 = .ok (.ireturn, 1) := by decide +kernel
theorem dX1_firstFor_29 : decode cX1_firstFor 29 = .ok (.iinc 3 1, 3) := by decide +kernel
theorem dX1_firstFor_32 : decode cX1_firstFor 32 = .ok (.goto (-30), 3) := by decide +kernel
theorem dX1_firstFor_35 : decode cX1_firstFor 35 = .ok (.iconst (-1), 1) := by decide +kernel
theorem dX1_firstFor_36 : decode cX1_firstFor 36 = .ok (.ireturn, 1) := by decide +kernel
theorem dX9_tellLeastMarks_0 : decode cX9_tellLeastMarks 0 = .ok (.aload_n 0, 1) := by decide +kernel
theorem dX9_tellLeastMarks_1 : decode cX9_tellLeastMarks 1 = .ok (.getfield 50, 3) := by decide +kernel
theorem dX9_tellLeastMarks_4 : decode cX9_tellLeastMarks 4 = .ok (.invokevirtual 304, 3) := by decide +kernel
theorem dX9_tellLeastMarks_7 : decode cX9_tellLeastMarks 7 = .ok (.iload_n 1, 1) := by decide +kernel
theorem dX9_tellLeastMarks_8 : decode cX9_tellLeastMarks 8 = .ok (.ifCond .ne 4, 3) := by decide +kernel
theorem dX9_tellLeastMarks_11 : decode cX9_tellLeastMarks 11 = .ok (.return_, 1) := by decide +kernel
theorem dX9_tellLeastMarks_12 : decode cX9_tellLeastMarks 12 = .ok (.iconst (-1), 1) := by decide +kernel
theorem dX9_tellLeastMarks_13 : decode cX9_tellLeastMarks 13 = .ok (.istore_n 2, 1) := by decide +kernel
theorem dX9_tellLeastMarks_14 : decode cX9_tellLeastMarks 14 = .ok (.iconst 0, 1) := by decide +kernel
theorem dX9_tellLeastMarks_15 : decode cX9_tellLeastMarks 15 = .ok (.istore_n 3, 1) := by decide +kernel
theorem dX9_tellLeastMarks_16 : decode cX9_tellLeastMarks 16 = .ok (.iload_n 3, 1) := by decide +kernel
theorem dX9_tellLeastMarks_17 : decode cX9_tellLeastMarks 17 = .ok (.aload_n 0, 1) := by decide +kernel
theorem dX9_tellLeastMarks_18 : decode cX9_tellLeastMarks 18 = .ok (.getfield 57, 3) := by decide +kernel
theorem dX9_tellLeastMarks_21 : decode cX9_tellLeastMarks 21 = .ok (.getfield 412, 3) := by decide +kernel
theorem dX9_tellLeastMarks_24 : decode cX9_tellLeastMarks 24 = .ok (.if_icmp .ge 27, 3) := by decide +kernel
theorem dX9_tellLeastMarks_27 : decode cX9_tellLeastMarks 27 = .ok (.aload_n 0, 1) := by decide +kernel
theorem dX9_tellLeastMarks_28 : decode cX9_tellLeastMarks 28 = .ok (.getfield 57, 3) := by decide +kernel
theorem dX9_tellLeastMarks_31 : decode cX9_tellLeastMarks 31 = .ok (.iload_n 3, 1) := by decide +kernel
theorem dX9_tellLeastMarks_32 : decode cX9_tellLeastMarks 32 = .ok (.iload_n 2, 1) := by decide +kernel
theorem dX9_tellLeastMarks_33 : decode cX9_tellLeastMarks 33 = .ok (.invokevirtual 415, 3) := by decide +kernel
theorem dX9_tellLeastMarks_36 : decode cX9_tellLeastMarks 36 = .ok (.istore_n 2, 1) := by decide +kernel
theorem dX9_tellLeastMarks_37 : decode cX9_tellLeastMarks 37 = .ok (.aload_n 0, 1) := by decide +kernel
theorem dX9_tellLeastMarks_38 : decode cX9_tellLeastMarks 38 = .ok (.getfield 50, 3) := by decide +kernel
theorem dX9_tellLeastMarks_41 : decode cX9_tellLeastMarks 41 = .ok (.iload_n 2, 1) := by decide +kernel
theorem dX9_tellLeastMarks_42 : decode cX9_tellLeastMarks 42 = .ok (.invokevirtual 318, 3) := by decide +kernel
theorem dX9_tellLeastMarks_45 : decode cX9_tellLeastMarks 45 = .ok (.iinc 3 1, 3) := by decide +kernel
theorem dX9_tellLeastMarks_48 : decode cX9_tellLeastMarks 48 = .ok (.goto (-32), 3) := by decide +kernel
theorem dX9_tellLeastMarks_51 : decode cX9_tellLeastMarks 51 = .ok (.return_, 1) := by decide +kernel
theorem dX9_grass_0 : decode cX9_grass 0 = .ok (.bipush (-100), 2) := by decide +kernel
theorem dX9_grass_2 : decode cX9_grass 2 = .ok (.istore_n 2, 1) := by decide +kernel
theorem dX9_grass_3 : decode cX9_grass 3 = .ok (.iload_n 1, 1) := by decide +kernel
theorem dX9_grass_4 : decode cX9_grass 4 = .ok (.ifCond .lt 61, 3) := by decide +kernel
theorem dX9_grass_7 : decode cX9_grass 7 = .ok (.iload_n 1, 1) := by decide +kernel
theorem dX9_grass_8 : decode cX9_grass 8 = .ok (.bipush 99, 2) := by decide +kernel
theorem dX9_grass_10 : decode cX9_grass 10 = .ok (.if_icmp .gt 55, 3) := by decide +kernel
theorem dX9_grass_13 : decode cX9_grass 13 = .ok (.aload_n 0, 1) := by decide +kernel
theorem dX9_grass_14 : decode cX9_grass 14 = .ok (.getfield 10, 3) := by decide +kernel
theorem dX9_grass_17 : decode cX9_grass 17 = .ok (.bipush 80, 2) := by decide +kernel
theorem dX9_grass_19 : decode cX9_grass 19 = .ok (.invokevirtual 73, 3) := by decide +kernel
theorem dX9_grass_22 : decode cX9_grass 22 = .ok (.aload_n 0, 1) := by decide +kernel
theorem dX9_grass_23 : decode cX9_grass 23 = .ok (.getfield 57, 3) := by decide +kernel
theorem dX9_grass_26 : decode cX9_grass 26 = .ok (.aload_n 0, 1) := by decide +kernel
theorem dX9_grass_27 : decode cX9_grass 27 = .ok (.getfield 10, 3) := by decide +kernel
theorem dX9_grass_30 : decode cX9_grass 30 = .ok (.invokevirtual 396, 3) := by decide +kernel
theorem dX9_grass_33 : decode cX9_grass 33 = .ok (.ifCond .eq 24, 3) := by decide +kernel
theorem dX9_grass_36 : decode cX9_grass 36 = .ok (.aload_n 0, 1) := by decide +kernel
theorem dX9_grass_37 : decode cX9_grass 37 = .ok (.getfield 57, 3) := by decide +kernel
theorem dX9_grass_40 : decode cX9_grass 40 = .ok (.aload_n 0, 1) := by decide +kernel
theorem dX9_grass_41 : decode cX9_grass 41 = .ok (.getfield 34, 3) := by decide +kernel
theorem dX9_grass_44 : decode cX9_grass 44 = .ok (.iload_n 1, 1) := by decide +kernel
theorem dX9_grass_45 : decode cX9_grass 45 = .ok (.invokevirtual 399, 3) := by decide +kernel
theorem dX9_grass_48 : decode cX9_grass 48 = .ok (.istore_n 2, 1) := by decide +kernel
theorem dX9_grass_49 : decode cX9_grass 49 = .ok (.aload_n 0, 1) := by decide +kernel
theorem dX9_grass_50 : decode cX9_grass 50 = .ok (.iload_n 2, 1) := by decide +kernel
theorem dX9_grass_51 : decode cX9_grass 51 = .ok (.invokevirtual 403, 3) := by decide +kernel
theorem dX9_grass_54 : decode cX9_grass 54 = .ok (.goto 11, 3) := by decide +kernel
theorem dX9_grass_57 : decode cX9_grass 57 = .ok (.aload_n 0, 1) := by decide +kernel
theorem dX9_grass_58 : decode cX9_grass 58 = .ok (.getfield 10, 3) := by decide +kernel
theorem dX9_grass_61 : decode cX9_grass 61 = .ok (.invokevirtual 91, 3) := by decide +kernel
theorem dX9_grass_64 : decode cX9_grass 64 = .ok (.istore_n 2, 1) := by decide +kernel
theorem dX9_grass_65 : decode cX9_grass 65 = .ok (.aload_n 0, 1) := by decide +kernel
theorem dX9_grass_66 : decode cX9_grass 66 = .ok (.getfield 10, 3) := by decide +kernel
theorem dX9_grass_69 : decode cX9_grass 69 = .ok (.invokevirtual 101, 3) := by decide +kernel
theorem dX9_grass_72 : decode cX9_grass 72 = .ok (.iload_n 2, 1) := by decide +kernel
theorem dX9_grass_73 : decode cX9_grass 73 = .ok (.ireturn, 1) := by decide +kernel
theorem dX5_isFitting_0 : decode cX5_isFitting 0 = .ok (.iconst 0, 1) := by decide +kernel
theorem dX5_isFitting_1 : decode cX5_isFitting 1 = .ok (.istore_n 3, 1) := by decide +kernel
theorem dX5_isFitting_2 : decode cX5_isFitting 2 = .ok (.iload_n 3, 1) := by decide +kernel
theorem dX5_isFitting_3 : decode cX5_isFitting 3 = .ok (.aload_n 0, 1) := by decide +kernel
theorem dX5_isFitting_4 : decode cX5_isFitting 4 = .ok (.getfield 24, 3) := by decide +kernel
theorem dX5_isFitting_7 : decode cX5_isFitting 7 = .ok (.getfield 64, 3) := by decide +kernel
theorem dX5_isFitting_10 : decode cX5_isFitting 10 = .ok (.if_icmp .ge 30, 3) := by decide +kernel
theorem dX5_isFitting_13 : decode cX5_isFitting 13 = .ok (.iload_n 1, 1) := by decide +kernel
theorem dX5_isFitting_14 : decode cX5_isFitting 14 = .ok (.iload_n 3, 1) := by decide +kernel
theorem dX5_isFitting_15 : decode cX5_isFitting 15 = .ok (.ishr, 1) := by decide +kernel
theorem dX5_isFitting_16 : decode cX5_isFitting 16 = .ok (.iconst 1, 1) := by decide +kernel
theorem dX5_isFitting_17 : decode cX5_isFitting 17 = .ok (.iand, 1) := by decide +kernel
theorem dX5_isFitting_18 : decode cX5_isFitting 18 = .ok (.ifCond .eq 16, 3) := by decide +kernel
theorem dX5_isFitting_21 : decode cX5_isFitting 21 = .ok (.aload_n 0, 1) := by decide +kernel
theorem dX5_isFitting_22 : decode cX5_isFitting 22 = .ok (.getfield 25, 3) := by decide +kernel
theorem dX5_isFitting_25 : decode cX5_isFitting 25 = .ok (.iload_n 3, 1) := by decide +kernel
theorem dX5_isFitting_26 : decode cX5_isFitting 26 = .ok (.iaload, 1) := by decide +kernel
theorem dX5_isFitting_27 : decode cX5_isFitting 27 = .ok (.iload_n 2, 1) := by decide +kernel
theorem dX5_isFitting_28 : decode cX5_isFitting 28 = .ok (.iand, 1) := by decide +kernel
theorem dX5_isFitting_29 : decode cX5_isFitting 29 = .ok (.ifCond .ne 5, 3) := by decide +kernel
theorem dX5_isFitting_32 : decode cX5_isFitting 32 = .ok (.iconst 0, 1) := by decide +kernel
theorem dX5_isFitting_33 : decode cX5_isFitting 33 = .ok (.ireturn, 1) := by decide +kernel
theorem dX5_isFitting_34 : decode cX5_isFitting 34 = .ok (.iinc 3 1, 3) := by decide +kernel
theorem dX5_isFitting_37 : decode cX5_isFitting 37 = .ok (.goto (-35), 3) := by decide +kernel
theorem dX5_isFitting_40 : decode cX5_isFitting 40 = .ok (.iload_n 2, 1) := by decide +kernel
theorem dX5_isFitting_41 : decode cX5_isFitting 41 = .ok (.aload_n 0, 1) := by decide +kernel
theorem dX5_isFitting_42 : decode cX5_isFitting 42 = .ok (.iload_n 1, 1) := by decide +kernel
theorem dX5_isFitting_43 : decode cX5_isFitting 43 = .ok (.invokevirtual 81, 3) := by decide +kernel
theorem dX5_isFitting_46 : decode cX5_isFitting 46 = .ok (.iconst (-1), 1) := by decide +kernel
theorem dX5_isFitting_47 : decode cX5_isFitting 47 = .ok (.ixor, 1) := by decide +kernel
theorem dX5_isFitting_48 : decode cX5_isFitting 48 = .ok (.iand, 1) := by decide +kernel
theorem dX5_isFitting_49 : decode cX5_isFitting 49 = .ok (.ifCond .ne 7, 3) := by decide +kernel
theorem dX5_isFitting_52 : decode cX5_isFitting 52 = .ok (.iconst 1, 1) := by decide +kernel
theorem dX5_isFitting_53 : decode cX5_isFitting 53 = .ok (.goto 4, 3) := by decide +kernel
theorem dX5_isFitting_56 : decode cX5_isFitting 56 = .ok (.iconst 0, 1) := by decide +kernel
theorem dX5_isFitting_57 : decode cX5_isFitting 57 = .ok (.ireturn, 1) := by decide +kernel
theorem dX9_fits_0 : decode cX9_fits 0 = .ok (.iload_n 1, 1) := by decide +kernel
theorem dX9_fits_1 : decode cX9_fits 1 = .ok (.aload_n 0, 1) := by decide +kernel
theorem dX9_fits_2 : decode cX9_fits 2 = .ok (.getfield 34, 3) := by decide +kernel
theorem dX9_fits_5 : decode cX9_fits 5 = .ok (.invokevirtual 406, 3) := by decide +kernel
theorem dX9_fits_8 : decode cX9_fits 8 = .ok (.iconst (-1), 1) := by decide +kernel
theorem dX9_fits_9 : decode cX9_fits 9 = .ok (.ixor, 1) := by decide +kernel
theorem dX9_fits_10 : decode cX9_fits 10 = .ok (.iand, 1) := by decide +kernel
theorem dX9_fits_11 : decode cX9_fits 11 = .ok (.ifCond .eq 5, 3) := by decide +kernel
theorem dX9_fits_14 : decode cX9_fits 14 = .ok (.iconst (-1), 1) := by decide +kernel
theorem dX9_fits_15 : decode cX9_fits 15 = .ok (.ireturn, 1) := by decide +kernel
theorem dX9_fits_16 : decode cX9_fits 16 = .ok (.aload_n 0, 1) := by decide +kernel
theorem dX9_fits_17 : decode cX9_fits 17 = .ok (.getfield 19, 3) := by decide +kernel
theorem dX9_fits_20 : decode cX9_fits 20 = .ok (.invokevirtual 265, 3) := by decide +kernel
theorem dX9_fits_23 : decode cX9_fits 23 = .ok (.iconst 0, 1) := by decide +kernel
theorem dX9_fits_24 : decode cX9_fits 24 = .ok (.istore_n 2, 1) := by decide +kernel
theorem dX9_fits_25 : decode cX9_fits 25 = .ok (.iconst (-1), 1) := by decide +kernel
theorem dX9_fits_26 : decode cX9_fits 26 = .ok (.istore_n 3, 1) := by decide +kernel
theorem dX9_fits_27 : decode cX9_fits 27 = .ok (.iconst (-1), 1) := by decide +kernel
theorem dX9_fits_28 : decode cX9_fits 28 = .ok (.istore 4, 2) := by decide +kernel
theorem dX9_fits_30 : decode cX9_fits 30 = .ok (.iconst 0, 1) := by decide +kernel
theorem dX9_fits_31 : decode cX9_fits 31 = .ok (.istore 5, 2) := by decide +kernel
theorem dX9_fits_33 : decode cX9_fits 33 = .ok (.iload 5, 2) := by decide +kernel
theorem dX9_fits_35 : decode cX9_fits 35 = .ok (.aload_n 0, 1) := by decide +kernel
theorem dX9_fits_36 : decode cX9_fits 36 = .ok (.getfield 34, 3) := by decide +kernel
theorem dX9_fits_39 : decode cX9_fits 39 = .ok (.invokevirtual 277, 3) := by decide +kernel
theorem dX9_fits_42 : decode cX9_fits 42 = .ok (.if_icmp .gt 68, 3) := by decide +kernel
theorem dX9_fits_45 : decode cX9_fits 45 = .ok (.aload_n 0, 1) := by decide +kernel
theorem dX9_fits_46 : decode cX9_fits 46 = .ok (.getfield 19, 3) := by decide +kernel
theorem dX9_fits_49 : decode cX9_fits 49 = .ok (.iload 5, 2) := by decide +kernel
theorem dX9_fits_51 : decode cX9_fits 51 = .ok (.iload_n 1, 1) := by decide +kernel
theorem dX9_fits_52 : decode cX9_fits 52 = .ok (.invokevirtual 409, 3) := by decide +kernel
theorem dX9_fits_55 : decode cX9_fits 55 = .ok (.ifCond .eq 49, 3) := by decide +kernel
theorem dX9_fits_58 : decode cX9_fits 58 = .ok (.iinc 2 1, 3) := by decide +kernel
theorem dX9_fits_61 : decode cX9_fits 61 = .ok (.iload_n 3, 1) := by decide +kernel
theorem dX9_fits_62 : decode cX9_fits 62 = .ok (.iconst (-1), 1) := by decide +kernel
theorem dX9_fits_63 : decode cX9_fits 63 = .ok (.if_icmp .eq 15, 3) := by decide +kernel
theorem dX9_fits_66 : decode cX9_fits 66 = .ok (.iload 5, 2) := by decide +kernel
theorem dX9_fits_68 : decode cX9_fits 68 = .ok (.invokestatic 292, 3) := by decide +kernel
theorem dX9_fits_71 : decode cX9_fits 71 = .ok (.iload_n 3, 1) := by decide +kernel
theorem dX9_fits_72 : decode cX9_fits 72 = .ok (.invokestatic 292, 3) := by decide +kernel
theorem dX9_fits_75 : decode cX9_fits 75 = .ok (.if_icmp .ge 6, 3) := by decide +kernel
theorem dX9_fits_78 : decode cX9_fits 78 = .ok (.iload 5, 2) := by decide +kernel
theorem dX9_fits_80 : decode cX9_fits 80 = .ok (.istore_n 3, 1) := by decide +kernel
theorem dX9_fits_81 : decode cX9_fits 81 = .ok (.iload 4, 2) := by decide +kernel
theorem dX9_fits_83 : decode cX9_fits 83 = .ok (.iconst (-1), 1) := by decide +kernel
theorem dX9_fits_84 : decode cX9_fits 84 = .ok (.if_icmp .eq 16, 3) := by decide +kernel
theorem dX9_fits_87 : decode cX9_fits 87 = .ok (.iload 5, 2) := by decide +kernel
theorem dX9_fits_89 : decode cX9_fits 89 = .ok (.invokestatic 292, 3) := by decide +kernel
theorem dX9_fits_92 : decode cX9_fits 92 = .ok (.iload 4, 2) := by decide +kernel
theorem dX9_fits_94 : decode cX9_fits 94 = .ok (.invokestatic 292, 3) := by decide +kernel
theorem dX9_fits_97 : decode cX9_fits 97 = .ok (.if_icmp .le 7, 3) := by decide +kernel
theorem dX9_fits_100 : decode cX9_fits 100 = .ok (.iload 5, 2) := by decide +kernel
theorem dX9_fits_102 : decode cX9_fits 102 = .ok (.istore 4, 2) := by decide +kernel
theorem dX9_fits_104 : decode cX9_fits 104 = .ok (.iinc 5 1, 3) := by decide +kernel
theorem dX9_fits_107 : decode cX9_fits 107 = .ok (.goto (-74), 3) := by decide +kernel
theorem dX9_fits_110 : decode cX9_fits 110 = .ok (.aload_n 0, 1) := by decide +kernel
theorem dX9_fits_111 : decode cX9_fits 111 = .ok (.iload_n 3, 1) := by decide +kernel
theorem dX9_fits_112 : decode cX9_fits 112 = .ok (.iload 4, 2) := by decide +kernel
theorem dX9_fits_114 : decode cX9_fits 114 = .ok (.invokevirtual 234, 3) := by decide +kernel
theorem dX9_fits_117 : decode cX9_fits 117 = .ok (.iload_n 2, 1) := by decide +kernel
theorem dX9_fits_118 : decode cX9_fits 118 = .ok (.ireturn, 1) := by decide +kernel
theorem dX9_leaned_0 : decode cX9_leaned 0 = .ok (.aload_n 0, 1) := by decide +kernel
theorem dX9_leaned_1 : decode cX9_leaned 1 = .ok (.getfield 34, 3) := by decide +kernel
theorem dX9_leaned_4 : decode cX9_leaned 4 = .ok (.iload_n 1, 1) := by decide +kernel
theorem dX9_leaned_5 : decode cX9_leaned 5 = .ok (.invokevirtual 117, 3) := by decide +kernel
theorem dX9_leaned_8 : decode cX9_leaned 8 = .ok (.ifCond .eq 14, 3) := by decide +kernel
theorem dX9_leaned_11 : decode cX9_leaned 11 = .ok (.aload_n 0, 1) := by decide +kernel
theorem dX9_leaned_12 : decode cX9_leaned 12 = .ok (.getfield 34, 3) := by decide +kernel
theorem dX9_leaned_15 : decode cX9_leaned 15 = .ok (.iload_n 2, 1) := by decide +kernel
theorem dX9_leaned_16 : decode cX9_leaned 16 = .ok (.invokevirtual 150, 3) := by decide +kernel
theorem dX9_leaned_19 : decode cX9_leaned 19 = .ok (.ifCond .ne 5, 3) := by decide +kernel
theorem dX9_leaned_22 : decode cX9_leaned 22 = .ok (.iconst (-1), 1) := by decide +kernel
theorem dX9_leaned_23 : decode cX9_leaned 23 = .ok (.ireturn, 1) := by decide +kernel
theorem dX9_leaned_24 : decode cX9_leaned 24 = .ok (.aload_n 0, 1) := by decide +kernel
theorem dX9_leaned_25 : decode cX9_leaned 25 = .ok (.getfield 34, 3) := by decide +kernel
theorem dX9_leaned_28 : decode cX9_leaned 28 = .ok (.iload_n 1, 1) := by decide +kernel
theorem dX9_leaned_29 : decode cX9_leaned 29 = .ok (.iload_n 2, 1) := by decide +kernel
theorem dX9_leaned_30 : decode cX9_leaned 30 = .ok (.invokevirtual 271, 3) := by decide +kernel
theorem dX9_leaned_33 : decode cX9_leaned 33 = .ok (.ireturn, 1) := by decide +kernel
theorem dX9_autumn_0 : decode cX9_autumn 0 = .ok (.iload_n 2, 1) := by decide +kernel
theorem dX9_autumn_1 : decode cX9_autumn 1 = .ok (.iconst 1, 1) := by decide +kernel
theorem dX9_autumn_2 : decode cX9_autumn 2 = .ok (.if_icmp .lt 19, 3) := by decide +kernel
theorem dX9_autumn_5 : decode cX9_autumn 5 = .ok (.iload_n 2, 1) := by decide +kernel
theorem dX9_autumn_6 : decode cX9_autumn 6 = .ok (.bipush 30, 2) := by decide +kernel
theorem dX9_autumn_8 : decode cX9_autumn 8 = .ok (.if_icmp .gt 13, 3) := by decide +kernel
theorem dX9_autumn_11 : decode cX9_autumn 11 = .ok (.iload_n 3, 1) := by decide +kernel
theorem dX9_autumn_12 : decode cX9_autumn 12 = .ok (.ifCond .lt 9, 3) := by decide +kernel
theorem dX9_autumn_15 : decode cX9_autumn 15 = .ok (.iload_n 3, 1) := by decide +kernel
theorem dX9_autumn_16 : decode cX9_autumn 16 = .ok (.bipush 10, 2) := by decide +kernel
theorem dX9_autumn_18 : decode cX9_autumn 18 = .ok (.if_icmp .le 5, 3) := by decide +kernel
theorem dX9_autumn_21 : decode cX9_autumn 21 = .ok (.iconst (-1), 1) := by decide +kernel
theorem dX9_autumn_22 : decode cX9_autumn 22 = .ok (.ireturn, 1) := by decide +kernel
theorem dX9_autumn_23 : decode cX9_autumn 23 = .ok (.iload_n 1, 1) := by decide +kernel
theorem dX9_autumn_24 : decode cX9_autumn 24 = .ok (.istore 4, 2) := by decide +kernel
theorem dX9_autumn_26 : decode cX9_autumn 26 = .ok (.aload_n 0, 1) := by decide +kernel
theorem dX9_autumn_27 : decode cX9_autumn 27 = .ok (.getfield 27, 3) := by decide +kernel
theorem dX9_autumn_30 : decode cX9_autumn 30 = .ok (.invokevirtual 143, 3) := by decide +kernel
theorem dX9_autumn_33 : decode cX9_autumn 33 = .ok (.istore 5, 2) := by decide +kernel
theorem dX9_autumn_35 : decode cX9_autumn 35 = .ok (.iconst 0, 1) := by decide +kernel
theorem dX9_autumn_36 : decode cX9_autumn 36 = .ok (.istore 6, 2) := by decide +kernel
theorem dX9_autumn_38 : decode cX9_autumn 38 = .ok (.iconst 0, 1) := by decide +kernel
theorem dX9_autumn_39 : decode cX9_autumn 39 = .ok (.istore 7, 2) := by decide +kernel
theorem dX9_autumn_41 : decode cX9_autumn 41 = .ok (.iconst (-1), 1) := by decide +kernel
theorem dX9_autumn_42 : decode cX9_autumn 42 = .ok (.istore 8, 2) := by decide +kernel
theorem dX9_autumn_44 : decode cX9_autumn 44 = .ok (.iconst 1, 1) := by decide +kernel
theorem dX9_autumn_45 : decode cX9_autumn 45 = .ok (.istore 9, 2) := by decide +kernel
theorem dX9_autumn_47 : decode cX9_autumn 47 = .ok (.iload 9, 2) := by decide +kernel
theorem dX9_autumn_49 : decode cX9_autumn 49 = .ok (.iload_n 2, 1) := by decide +kernel
theorem dX9_autumn_50 : decode cX9_autumn 50 = .ok (.if_icmp .gt 126, 3) := by decide +kernel
theorem dX9_autumn_53 : decode cX9_autumn 53 = .ok (.iload 5, 2) := by decide +kernel
theorem dX9_autumn_55 : decode cX9_autumn 55 = .ok (.iload 6, 2) := by decide +kernel
theorem dX9_autumn_57 : decode cX9_autumn 57 = .ok (.iconst (-1), 1) := by decide +kernel
theorem dX9_autumn_58 : decode cX9_autumn 58 = .ok (.ixor, 1) := by decide +kernel
theorem dX9_autumn_59 : decode cX9_autumn 59 = .ok (.iand, 1) := by decide +kernel
theorem dX9_autumn_60 : decode cX9_autumn 60 = .ok (.aload_n 0, 1) := by decide +kernel
theorem dX9_autumn_61 : decode cX9_autumn 61 = .ok (.getfield 34, 3) := by decide +kernel
theorem dX9_autumn_64 : decode cX9_autumn 64 = .ok (.bipush 9, 2) := by decide +kernel
theorem dX9_autumn_66 : decode cX9_autumn 66 = .ok (.aload_n 0, 1) := by decide +kernel
theorem dX9_autumn_67 : decode cX9_autumn 67 = .ok (.getfield 39, 3) := by decide +kernel
theorem dX9_autumn_70 : decode cX9_autumn 70 = .ok (.getfield 350, 3) := by decide +kernel
theorem dX9_autumn_73 : decode cX9_autumn 73 = .ok (.iload 9, 2) := by decide +kernel
theorem dX9_autumn_75 : decode cX9_autumn 75 = .ok (.iadd, 1) := by decide +kernel
theorem dX9_autumn_76 : decode cX9_autumn 76 = .ok (.invokestatic 418, 3) := by decide +kernel
theorem dX9_autumn_79 : decode cX9_autumn 79 = .ok (.invokevirtual 356, 3) := by decide +kernel
theorem dX9_autumn_82 : decode cX9_autumn 82 = .ok (.iand, 1) := by decide +kernel
theorem dX9_autumn_83 : decode cX9_autumn 83 = .ok (.istore 10, 2) := by decide +kernel
theorem dX9_autumn_85 : decode cX9_autumn 85 = .ok (.iconst 0, 1) := by decide +kernel
theorem dX9_autumn_86 : decode cX9_autumn 86 = .ok (.istore 11, 2) := by decide +kernel
theorem dX9_autumn_88 : decode cX9_autumn 88 = .ok (.iconst 0, 1) := by decide +kernel
theorem dX9_autumn_89 : decode cX9_autumn 89 = .ok (.istore 12, 2) := by decide +kernel
theorem dX9_autumn_91 : decode cX9_autumn 91 = .ok (.iload 12, 2) := by decide +kernel
theorem dX9_autumn_93 : decode cX9_autumn 93 = .ok (.aload_n 0, 1) := by decide +kernel
theorem dX9_autumn_94 : decode cX9_autumn 94 = .ok (.getfield 34, 3) := by decide +kernel
theorem dX9_autumn_97 : decode cX9_autumn 97 = .ok (.getfield 341, 3) := by decide +kernel
theorem dX9_autumn_100 : decode cX9_autumn 100 = .ok (.if_icmp .ge 55, 3) := by decide +kernel
theorem dX9_autumn_103 : decode cX9_autumn 103 = .ok (.iload 10, 2) := by decide +kernel
theorem dX9_autumn_105 : decode cX9_autumn 105 = .ok (.iload 12, 2) := by decide +kernel
theorem dX9_autumn_107 : decode cX9_autumn 107 = .ok (.ishr, 1) := by decide +kernel
theorem dX9_autumn_108 : decode cX9_autumn 108 = .ok (.iconst 1, 1) := by decide +kernel
theorem dX9_autumn_109 : decode cX9_autumn 109 = .ok (.iand, 1) := by decide +kernel
theorem dX9_autumn_110 : decode cX9_autumn 110 = .ok (.ifCond .eq 39, 3) := by decide +kernel
theorem dX9_autumn_113 : decode cX9_autumn 113 = .ok (.iload 4, 2) := by decide +kernel
theorem dX9_autumn_115 : decode cX9_autumn 115 = .ok (.ldc_w 421, 3) := by decide +kernel
theorem dX9_autumn_118 : decode cX9_autumn 118 = .ok (.imul, 1) := by decide +kernel
theorem dX9_autumn_119 : decode cX9_autumn 119 = .ok (.sipush 12345, 3) := by decide +kernel
theorem dX9_autumn_122 : decode cX9_autumn 122 = .ok (.iadd, 1) := by decide +kernel
theorem dX9_autumn_123 : decode cX9_autumn 123 = .ok (.istore 4, 2) := by decide +kernel
theorem dX9_autumn_125 : decode cX9_autumn 125 = .ok (.iload 4, 2) := by decide +kernel
theorem dX9_autumn_127 : decode cX9_autumn 127 = .ok (.bipush 16, 2) := by decide +kernel
theorem dX9_autumn_129 : decode cX9_autumn 129 = .ok (.iushr, 1) := by decide +kernel
theorem dX9_autumn_130 : decode cX9_autumn 130 = .ok (.bipush 10, 2) := by decide +kernel
theorem dX9_autumn_132 : decode cX9_autumn 132 = .ok (.irem, 1) := by decide +kernel
theorem dX9_autumn_133 : decode cX9_autumn 133 = .ok (.iload_n 3, 1) := by decide +kernel
theorem dX9_autumn_134 : decode cX9_autumn 134 = .ok (.if_icmp .ge 15, 3) := by decide +kernel
theorem dX9_autumn_137 : decode cX9_autumn 137 = .ok (.iload 6, 2) := by decide +kernel
theorem dX9_autumn_139 : decode cX9_autumn 139 = .ok (.iconst 1, 1) := by decide +kernel
theorem dX9_autumn_140 : decode cX9_autumn 140 = .ok (.iload 12, 2) := by decide +kernel
theorem dX9_autumn_142 : decode cX9_autumn 142 = .ok (.ishl, 1) := by decide +kernel
theorem dX9_autumn_143 : decode cX9_autumn 143 = .ok (.ior, 1) := by decide +kernel
theorem dX9_autumn_144 : decode cX9_autumn 144 = .ok (.istore 6, 2) := by decide +kernel
theorem dX9_autumn_146 : decode cX9_autumn 146 = .ok (.iinc 11 1, 3) := by decide +kernel
theorem dX9_autumn_149 : decode cX9_autumn 149 = .ok (.iinc 12 1, 3) := by decide +kernel
theorem dX9_autumn_152 : decode cX9_autumn 152 = .ok (.goto (-61), 3) := by decide +kernel
theorem dX9_autumn_155 : decode cX9_autumn 155 = .ok (.iload 11, 2) := by decide +kernel
theorem dX9_autumn_157 : decode cX9_autumn 157 = .ok (.iload 7, 2) := by decide +kernel
theorem dX9_autumn_159 : decode cX9_autumn 159 = .ok (.if_icmp .le 11, 3) := by decide +kernel
theorem dX9_autumn_162 : decode cX9_autumn 162 = .ok (.iload 11, 2) := by decide +kernel
theorem dX9_autumn_164 : decode cX9_autumn 164 = .ok (.istore 7, 2) := by decide +kernel
theorem dX9_autumn_166 : decode cX9_autumn 166 = .ok (.iload 9, 2) := by decide +kernel
theorem dX9_autumn_168 : decode cX9_autumn 168 = .ok (.istore 8, 2) := by decide +kernel
theorem dX9_autumn_170 : decode cX9_autumn 170 = .ok (.iinc 9 1, 3) := by decide +kernel
theorem dX9_autumn_173 : decode cX9_autumn 173 = .ok (.goto (-126), 3) := by decide +kernel
theorem dX9_autumn_176 : decode cX9_autumn 176 = .ok (.aload_n 0, 1) := by decide +kernel
theorem dX9_autumn_177 : decode cX9_autumn 177 = .ok (.iload 6, 2) := by decide +kernel
theorem dX9_autumn_179 : decode cX9_autumn 179 = .ok (.aload_n 0, 1) := by decide +kernel
theorem dX9_autumn_180 : decode cX9_autumn 180 = .ok (.getfield 27, 3) := by decide +kernel
theorem dX9_autumn_183 : decode cX9_autumn 183 = .ok (.iload 6, 2) := by decide +kernel
theorem dX9_autumn_185 : decode cX9_autumn 185 = .ok (.invokevirtual 257, 3) := by decide +kernel
theorem dX9_autumn_188 : decode cX9_autumn 188 = .ok (.iload 8, 2) := by decide +kernel
theorem dX9_autumn_190 : decode cX9_autumn 190 = .ok (.invokevirtual 338, 3) := by decide +kernel
theorem dX9_autumn_193 : decode cX9_autumn 193 = .ok (.iload 6, 2) := by decide +kernel
theorem dX9_autumn_195 : decode cX9_autumn 195 = .ok (.invokestatic 292, 3) := by decide +kernel
theorem dX9_autumn_198 : decode cX9_autumn 198 = .ok (.ireturn, 1) := by decide +kernel
theorem dX4_store_0 : decode cX4_store 0 = .ok (.iload_n 1, 1) := by decide +kernel
theorem dX4_store_1 : decode cX4_store 1 = .ok (.ifCond .lt 8, 3) := by decide +kernel
theorem dX4_store_4 : decode cX4_store 4 = .ok (.iload_n 1, 1) := by decide +kernel
