theorem dX10_fruit_125 : decode cX10_fruit 125 = .ok (.iload_n 1, 1) := by decide +kernel
theorem dX10_fruit_126 : decode cX10_fruit 126 = .ok (.aload_n 0, 1) := by decide +kernel
theorem dX10_fruit_127 : decode cX10_fruit 127 = .ok (.aload_n 0, 1) := by decide +kernel
theorem dX10_fruit_128 : decode cX10_fruit 128 = .ok (.getfield 9, 3) := by decide +kernel
theorem dX10_fruit_131 : decode cX10_fruit 131 = .ok (.iconst 0, 1) := by decide +kernel
theorem dX10_fruit_132 : decode cX10_fruit 132 = .ok (.invokevirtual 244, 3) := by decide +kernel
theorem dX10_fruit_135 : decode cX10_fruit 135 = .ok (.invokevirtual 248, 3) := by decide +kernel
theorem dX10_fruit_138 : decode cX10_fruit 138 = .ok (.goto 4, 3) := by decide +kernel
theorem dX10_fruit_141 : decode cX10_fruit 141 = .ok (.iconst 0, 1) := by decide +kernel
theorem dX10_fruit_142 : decode cX10_fruit 142 = .ok (.ireturn, 1) := by decide +kernel
theorem dX10_isStanding_0 : decode cX10_isStanding 0 = .ok (.iload_n 1, 1) := by decide +kernel
theorem dX10_isStanding_1 : decode cX10_isStanding 1 = .ok (.iconst 0, 1) := by decide +kernel
theorem dX10_isStanding_2 : decode cX10_isStanding 2 = .ok (.aload_n 0, 1) := by decide +kernel
theorem dX10_isStanding_3 : decode cX10_isStanding 3 = .ok (.getfield 101, 3) := by decide +kernel
theorem dX10_isStanding_6 : decode cX10_isStanding 6 = .ok (.iconst 1, 1) := by decide +kernel
theorem dX10_isStanding_7 : decode cX10_isStanding 7 = .ok (.isub, 1) := by decide +kernel
theorem dX10_isStanding_8 : decode cX10_isStanding 8 = .ok (.invokestatic 97, 3) := by decide +kernel
theorem dX10_isStanding_11 : decode cX10_isStanding 11 = .ok (.ireturn, 1) := by decide +kernel
theorem dX10_downOf_0 : decode cX10_downOf 0 = .ok (.iconst 3, 1) := by decide +kernel
theorem dX10_downOf_1 : decode cX10_downOf 1 = .ok (.aload_n 0, 1) := by decide +kernel
theorem dX10_downOf_2 : decode cX10_downOf 2 = .ok (.getfield 28, 3) := by decide +kernel
theorem dX10_downOf_5 : decode cX10_downOf 5 = .ok (.iload_n 1, 1) := by decide +kernel
theorem dX10_downOf_6 : decode cX10_downOf 6 = .ok (.iaload, 1) := by decide +kernel
theorem dX10_downOf_7 : decode cX10_downOf 7 = .ok (.bipush 9, 2) := by decide +kernel
theorem dX10_downOf_9 : decode cX10_downOf 9 = .ok (.iadd, 1) := by decide +kernel
theorem dX10_downOf_10 : decode cX10_downOf 10 = .ok (.bipush 10, 2) := by decide +kernel
theorem dX10_downOf_12 : decode cX10_downOf 12 = .ok (.idiv, 1) := by decide +kernel
theorem dX10_downOf_13 : decode cX10_downOf 13 = .ok (.iadd, 1) := by decide +kernel
theorem dX10_downOf_14 : decode cX10_downOf 14 = .ok (.ireturn, 1) := by decide +kernel
theorem dX10_standing_0 : decode cX10_standing 0 = .ok (.aload_n 0, 1) := by decide +kernel
theorem dX10_standing_1 : decode cX10_standing 1 = .ok (.iconst 0, 1) := by decide +kernel
theorem dX10_standing_2 : decode cX10_standing 2 = .ok (.putfield 87, 3) := by decide +kernel
theorem dX10_standing_5 : decode cX10_standing 5 = .ok (.aload_n 0, 1) := by decide +kernel
theorem dX10_standing_6 : decode cX10_standing 6 = .ok (.iload_n 1, 1) := by decide +kernel
theorem dX10_standing_7 : decode cX10_standing 7 = .ok (.invokevirtual 251, 3) := by decide +kernel
theorem dX10_standing_10 : decode cX10_standing 10 = .ok (.ifCond .eq 12, 3) := by decide +kernel
theorem dX10_standing_13 : decode cX10_standing 13 = .ok (.iload_n 2, 1) := by decide +kernel
theorem dX10_standing_14 : decode cX10_standing 14 = .ok (.iconst 0, 1) := by decide +kernel
theorem dX10_standing_15 : decode cX10_standing 15 = .ok (.iconst 2, 1) := by decide +kernel
theorem dX10_standing_16 : decode cX10_standing 16 = .ok (.invokestatic 97, 3) := by decide +kernel
theorem dX10_standing_19 : decode cX10_standing 19 = .ok (.ifCond .ne 8, 3) := by decide +kernel
theorem dX10_standing_22 : decode cX10_standing 22 = .ok (.aload_n 0, 1) := by decide +kernel
theorem dX10_standing_23 : decode cX10_standing 23 = .ok (.invokevirtual 241, 3) := by decide +kernel
theorem dX10_standing_26 : decode cX10_standing 26 = .ok (.ireturn, 1) := by decide +kernel
theorem dX10_standing_27 : decode cX10_standing 27 = .ok (.iload_n 2, 1) := by decide +kernel
theorem dX10_standing_28 : decode cX10_standing 28 = .ok (.ifCond .ne 12, 3) := by decide +kernel
theorem dX10_standing_31 : decode cX10_standing 31 = .ok (.aload_n 0, 1) := by decide +kernel
theorem dX10_standing_32 : decode cX10_standing 32 = .ok (.getfield 25, 3) := by decide +kernel
theorem dX10_standing_35 : decode cX10_standing 35 = .ok (.iload_n 1, 1) := by decide +kernel
theorem dX10_standing_36 : decode cX10_standing 36 = .ok (.iaload, 1) := by decide +kernel
theorem dX10_standing_37 : decode cX10_standing 37 = .ok (.goto 22, 3) := by decide +kernel
theorem dX10_standing_40 : decode cX10_standing 40 = .ok (.iload_n 2, 1) := by decide +kernel
theorem dX10_standing_41 : decode cX10_standing 41 = .ok (.iconst 1, 1) := by decide +kernel
theorem dX10_standing_42 : decode cX10_standing 42 = .ok (.if_icmp .ne 12, 3) := by decide +kernel
theorem dX10_standing_45 : decode cX10_standing 45 = .ok (.aload_n 0, 1) := by decide +kernel
theorem dX10_standing_46 : decode cX10_standing 46 = .ok (.getfield 28, 3) := by decide +kernel
theorem dX10_standing_49 : decode cX10_standing 49 = .ok (.iload_n 1, 1) := by decide +kernel
theorem dX10_standing_50 : decode cX10_standing 50 = .ok (.iaload, 1) := by decide +kernel
theorem dX10_standing_51 : decode cX10_standing 51 = .ok (.goto 8, 3) := by decide +kernel
theorem dX10_standing_54 : decode cX10_standing 54 = .ok (.aload_n 0, 1) := by decide +kernel
theorem dX10_standing_55 : decode cX10_standing 55 = .ok (.iload_n 1, 1) := by decide +kernel
theorem dX10_standing_56 : decode cX10_standing 56 = .ok (.invokevirtual 254, 3) := by decide +kernel
theorem dX10_standing_59 : decode cX10_standing 59 = .ok (.ireturn, 1) := by decide +kernel
theorem dX10_set_0 : decode cX10_set 0 = .ok (.aload_n 0, 1) := by decide +kernel
theorem dX10_set_1 : decode cX10_set 1 = .ok (.iconst 0, 1) := by decide +kernel
theorem dX10_set_2 : decode cX10_set 2 = .ok (.putfield 87, 3) := by decide +kernel
theorem dX10_set_5 : decode cX10_set 5 = .ok (.iload_n 1, 1) := by decide +kernel
theorem dX10_set_6 : decode cX10_set 6 = .ok (.iconst 0, 1) := by decide +kernel
theorem dX10_set_7 : decode cX10_set 7 = .ok (.iconst 4, 1) := by decide +kernel
theorem dX10_set_8 : decode cX10_set 8 = .ok (.invokestatic 97, 3) := by decide +kernel
theorem dX10_set_11 : decode cX10_set 11 = .ok (.ifCond .eq 42, 3) := by decide +kernel
theorem dX10_set_14 : decode cX10_set 14 = .ok (.iload_n 2, 1) := by decide +kernel
theorem dX10_set_15 : decode cX10_set 15 = .ok (.iload_n 1, 1) := by decide +kernel
theorem dX10_set_16 : decode cX10_set 16 = .ok (.iconst 4, 1) := by decide +kernel
theorem dX10_set_17 : decode cX10_set 17 = .ok (.if_icmp .ne 7, 3) := by decide +kernel
theorem dX10_set_20 : decode cX10_set 20 = .ok (.iconst 1, 1) := by decide +kernel
theorem dX10_set_21 : decode cX10_set 21 = .ok (.goto 4, 3) := by decide +kernel
theorem dX10_set_24 : decode cX10_set 24 = .ok (.iconst 0, 1) := by decide +kernel
theorem dX10_set_25 : decode cX10_set 25 = .ok (.iload_n 1, 1) := by decide +kernel
theorem dX10_set_26 : decode cX10_set 26 = .ok (.iconst 4, 1) := by decide +kernel
theorem dX10_set_27 : decode cX10_set 27 = .ok (.if_icmp .ne 8, 3) := by decide +kernel
theorem dX10_set_30 : decode cX10_set 30 = .ok (.bipush 16, 2) := by decide +kernel
theorem dX10_set_32 : decode cX10_set 32 = .ok (.goto 15, 3) := by decide +kernel
theorem dX10_set_35 : decode cX10_set 35 = .ok (.iload_n 1, 1) := by decide +kernel
theorem dX10_set_36 : decode cX10_set 36 = .ok (.iconst 3, 1) := by decide +kernel
theorem dX10_set_37 : decode cX10_set 37 = .ok (.if_icmp .ne 8, 3) := by decide +kernel
theorem dX10_set_40 : decode cX10_set 40 = .ok (.bipush 9, 2) := by decide +kernel
theorem dX10_set_42 : decode cX10_set 42 = .ok (.goto 5, 3) := by decide +kernel
theorem dX10_set_45 : decode cX10_set 45 = .ok (.bipush 30, 2) := by decide +kernel
theorem dX10_set_47 : decode cX10_set 47 = .ok (.invokestatic 97, 3) := by decide +kernel
theorem dX10_set_50 : decode cX10_set 50 = .ok (.ifCond .ne 5, 3) := by decide +kernel
theorem dX10_set_53 : decode cX10_set 53 = .ok (.iconst (-1), 1) := by decide +kernel
theorem dX10_set_54 : decode cX10_set 54 = .ok (.ireturn, 1) := by decide +kernel
theorem dX10_set_55 : decode cX10_set 55 = .ok (.aload_n 0, 1) := by decide +kernel
theorem dX10_set_56 : decode cX10_set 56 = .ok (.getfield 31, 3) := by decide +kernel
theorem dX10_set_59 : decode cX10_set 59 = .ok (.iload_n 1, 1) := by decide +kernel
theorem dX10_set_60 : decode cX10_set 60 = .ok (.iaload, 1) := by decide +kernel
theorem dX10_set_61 : decode cX10_set 61 = .ok (.istore_n 3, 1) := by decide +kernel
theorem dX10_set_62 : decode cX10_set 62 = .ok (.aload_n 0, 1) := by decide +kernel
theorem dX10_set_63 : decode cX10_set 63 = .ok (.getfield 31, 3) := by decide +kernel
theorem dX10_set_66 : decode cX10_set 66 = .ok (.iload_n 1, 1) := by decide +kernel
theorem dX10_set_67 : decode cX10_set 67 = .ok (.iload_n 2, 1) := by decide +kernel
theorem dX10_set_68 : decode cX10_set 68 = .ok (.iastore, 1) := by decide +kernel
theorem dX10_set_69 : decode cX10_set 69 = .ok (.iload_n 3, 1) := by decide +kernel
theorem dX10_set_70 : decode cX10_set 70 = .ok (.ireturn, 1) := by decide +kernel
theorem dX10_sheet_0 : decode cX10_sheet 0 = .ok (.aload_n 0, 1) := by decide +kernel
theorem dX10_sheet_1 : decode cX10_sheet 1 = .ok (.iconst 0, 1) := by decide +kernel
theorem dX10_sheet_2 : decode cX10_sheet 2 = .ok (.putfield 87, 3) := by decide +kernel
theorem dX10_sheet_5 : decode cX10_sheet 5 = .ok (.iload_n 1, 1) := by decide +kernel
theorem dX10_sheet_6 : decode cX10_sheet 6 = .ok (.iconst 0, 1) := by decide +kernel
theorem dX10_sheet_7 : decode cX10_sheet 7 = .ok (.iconst 3, 1) := by decide +kernel
theorem dX10_sheet_8 : decode cX10_sheet 8 = .ok (.invokestatic 97, 3) := by decide +kernel
theorem dX10_sheet_11 : decode cX10_sheet 11 = .ok (.ifCond .eq 9, 3) := by decide +kernel
theorem dX10_sheet_14 : decode cX10_sheet 14 = .ok (.iload_n 2, 1) := by decide +kernel
theorem dX10_sheet_15 : decode cX10_sheet 15 = .ok (.bipush 16, 2) := by decide +kernel
theorem dX10_sheet_17 : decode cX10_sheet 17 = .ok (.if_icmp .le 5, 3) := by decide +kernel
theorem dX10_sheet_20 : decode cX10_sheet 20 = .ok (.iconst (-1), 1) := by decide +kernel
theorem dX10_sheet_21 : decode cX10_sheet 21 = .ok (.ireturn, 1) := by decide +kernel
theorem dX10_sheet_22 : decode cX10_sheet 22 = .ok (.iload_n 1, 1) := by decide +kernel
theorem dX10_sheet_23 : decode cX10_sheet 23 = .ok (.iconst 3, 1) := by decide +kernel
theorem dX10_sheet_24 : decode cX10_sheet 24 = .ok (.if_icmp .ge 10, 3) := by decide +kernel
theorem dX10_sheet_27 : decode cX10_sheet 27 = .ok (.iload_n 2, 1) := by decide +kernel
theorem dX10_sheet_28 : decode cX10_sheet 28 = .ok (.ifCond .ge 6, 3) := by decide +kernel
theorem dX10_sheet_31 : decode cX10_sheet 31 = .ok (.bipush (-2), 2) := by decide +kernel
theorem dX10_sheet_33 : decode cX10_sheet 33 = .ok (.ireturn, 1) := by decide +kernel
theorem dX10_sheet_34 : decode cX10_sheet 34 = .ok (.iconst 0, 1) := by decide +kernel
theorem dX10_sheet_35 : decode cX10_sheet 35 = .ok (.istore 5, 2) := by decide +kernel
theorem dX10_sheet_37 : decode cX10_sheet 37 = .ok (.iload_n 3, 1) := by decide +kernel
theorem dX10_sheet_38 : decode cX10_sheet 38 = .ok (.istore 6, 2) := by decide +kernel
theorem dX10_sheet_40 : decode cX10_sheet 40 = .ok (.iconst 0, 1) := by decide +kernel
theorem dX10_sheet_41 : decode cX10_sheet 41 = .ok (.istore 7, 2) := by decide +kernel
theorem dX10_sheet_43 : decode cX10_sheet 43 = .ok (.iload 7, 2) := by decide +kernel
theorem dX10_sheet_45 : decode cX10_sheet 45 = .ok (.aload_n 0, 1) := by decide +kernel
theorem dX10_sheet_46 : decode cX10_sheet 46 = .ok (.getfield 94, 3) := by decide +kernel
theorem dX10_sheet_49 : decode cX10_sheet 49 = .ok (.if_icmp .ge 86, 3) := by decide +kernel
theorem dX10_sheet_52 : decode cX10_sheet 52 = .ok (.iload_n 1, 1) := by decide +kernel
theorem dX10_sheet_53 : decode cX10_sheet 53 = .ok (.ifCond .ne 9, 3) := by decide +kernel
theorem dX10_sheet_56 : decode cX10_sheet 56 = .ok (.iload 6, 2) := by decide +kernel
theorem dX10_sheet_58 : decode cX10_sheet 58 = .ok (.i2b, 1) := by decide +kernel
theorem dX10_sheet_59 : decode cX10_sheet 59 = .ok (.goto 16, 3) := by decide +kernel
theorem dX10_sheet_62 : decode cX10_sheet 62 = .ok (.iload_n 1, 1) := by decide +kernel
theorem dX10_sheet_63 : decode cX10_sheet 63 = .ok (.iconst 1, 1) := by decide +kernel
theorem dX10_sheet_64 : decode cX10_sheet 64 = .ok (.if_icmp .ne 9, 3) := by decide +kernel
theorem dX10_sheet_67 : decode cX10_sheet 67 = .ok (.iload 6, 2) := by decide +kernel
theorem dX10_sheet_69 : decode cX10_sheet 69 = .ok (.i2s, 1) := by decide +kernel
theorem dX10_sheet_70 : decode cX10_sheet 70 = .ok (.goto 5, 3) := by decide +kernel
theorem dX10_sheet_73 : decode cX10_sheet 73 = .ok (.iload 6, 2) := by decide +kernel
theorem dX10_sheet_75 : decode cX10_sheet 75 = .ok (.istore 8, 2) := by decide +kernel
theorem dX10_sheet_77 : decode cX10_sheet 77 = .ok (.aload_n 0, 1) := by decide +kernel
theorem dX10_sheet_78 : decode cX10_sheet 78 = .ok (.getfield 19, 3) := by decide +kernel
theorem dX10_sheet_81 : decode cX10_sheet 81 = .ok (.iload 7, 2) := by decide +kernel
theorem dX10_sheet_83 : decode cX10_sheet 83 = .ok (.iload_n 1, 1) := by decide +kernel
theorem dX10_sheet_84 : decode cX10_sheet 84 = .ok (.iconst 3, 1) := by decide +kernel
theorem dX10_sheet_85 : decode cX10_sheet 85 = .ok (.if_icmp .eq 9, 3) := by decide +kernel
theorem dX10_sheet_88 : decode cX10_sheet 88 = .ok (.iload 7, 2) := by decide +kernel
theorem dX10_sheet_90 : decode cX10_sheet 90 = .ok (.iload_n 2, 1) := by decide +kernel
theorem dX10_sheet_91 : decode cX10_sheet 91 = .ok (.if_icmp .lt 7, 3) := by decide +kernel
theorem dX10_sheet_94 : decode cX10_sheet 94 = .ok (.iconst 0, 1) := by decide +kernel
theorem dX10_sheet_95 : decode cX10_sheet 95 = .ok (.goto 14, 3) := by decide +kernel
theorem dX10_sheet_98 : decode cX10_sheet 98 = .ok (.iconst 0, 1) := by decide +kernel
theorem dX10_sheet_99 : decode cX10_sheet 99 = .ok (.bipush 9, 2) := by decide +kernel
theorem dX10_sheet_101 : decode cX10_sheet 101 = .ok (.iload 8, 2) := by decide +kernel
theorem dX10_sheet_103 : decode cX10_sheet 103 = .ok (.invokestatic 224, 3) := by decide +kernel
theorem dX10_sheet_106 : decode cX10_sheet 106 = .ok (.invokestatic 211, 3) := by decide +kernel
theorem dX10_sheet_109 : decode cX10_sheet 109 = .ok (.iastore, 1) := by decide +kernel
theorem dX10_sheet_110 : decode cX10_sheet 110 = .ok (.iload 5, 2) := by decide +kernel
theorem dX10_sheet_112 : decode cX10_sheet 112 = .ok (.aload_n 0, 1) := by decide +kernel
theorem dX10_sheet_113 : decode cX10_sheet 113 = .ok (.getfield 19, 3) := by decide +kernel
theorem dX10_sheet_116 : decode cX10_sheet 116 = .ok (.iload 7, 2) := by decide +kernel
theorem dX10_sheet_118 : decode cX10_sheet 118 = .ok (.iaload, 1) := by decide +kernel
theorem dX10_sheet_119 : decode cX10_sheet 119 = .ok (.iadd, 1) := by decide +kernel
theorem dX10_sheet_120 : decode cX10_sheet 120 = .ok (.istore 5, 2) := by decide +kernel
theorem dX10_sheet_122 : decode cX10_sheet 122 = .ok (.iload 6, 2) := by decide +kernel
theorem dX10_sheet_124 : decode cX10_sheet 124 = .ok (.iload 4, 2) := by decide +kernel
theorem dX10_sheet_126 : decode cX10_sheet 126 = .ok (.iadd, 1) := by decide +kernel
theorem dX10_sheet_127 : decode cX10_sheet 127 = .ok (.istore 6, 2) := by decide +kernel
theorem dX10_sheet_129 : decode cX10_sheet 129 = .ok (.iinc 7 1, 3) := by decide +kernel
theorem dX10_sheet_132 : decode cX10_sheet 132 = .ok (.goto (-89), 3) := by decide +kernel
theorem dX10_sheet_135 : decode cX10_sheet 135 = .ok (.iload_n 1, 1) := by decide +kernel
theorem dX10_sheet_136 : decode cX10_sheet 136 = .ok (.iconst 3, 1) := by decide +kernel
theorem dX10_sheet_137 : decode cX10_sheet 137 = .ok (.if_icmp .ne 8, 3) := by decide +kernel
theorem dX10_sheet_140 : decode cX10_sheet 140 = .ok (.bipush (-3), 2) := by decide +kernel
theorem dX10_sheet_142 : decode cX10_sheet 142 = .ok (.goto 5, 3) := by decide +kernel
theorem dX10_sheet_145 : decode cX10_sheet 145 = .ok (.iload 5, 2) := by decide +kernel
theorem dX10_sheet_147 : decode cX10_sheet 147 = .ok (.ireturn, 1) := by decide +kernel
theorem dX10_refusesMove_0 : decode cX10_refusesMove 0 = .ok (.aload_n 0, 1) := by decide +kernel
theorem dX10_refusesMove_1 : decode cX10_refusesMove 1 = .ok (.iload_n 1, 1) := by decide +kernel
theorem dX10_refusesMove_2 : decode cX10_refusesMove 2 = .ok (.invokevirtual 251, 3) := by decide +kernel
theorem dX10_refusesMove_5 : decode cX10_refusesMove 5 = .ok (.ifCond .ne 7, 3) := by decide +kernel
theorem dX10_refusesMove_8 : decode cX10_refusesMove 8 = .ok (.iconst (-1), 1) := by decide +kernel
theorem dX10_refusesMove_9 : decode cX10_refusesMove 9 = .ok (.goto 20, 3) := by decide +kernel
theorem dX10_refusesMove_12 : decode cX10_refusesMove 12 = .ok (.aload_n 0, 1) := by decide +kernel
theorem dX10_refusesMove_13 : decode cX10_refusesMove 13 = .ok (.getfield 9, 3) := by decide +kernel
theorem dX10_refusesMove_16 : decode cX10_refusesMove 16 = .ok (.bipush 17, 2) := by decide +kernel
theorem dX10_refusesMove_18 : decode cX10_refusesMove 18 = .ok (.iaload, 1) := by decide +kernel
theorem dX10_refusesMove_19 : decode cX10_refusesMove 19 = .ok (.iload_n 1, 1) := by decide +kernel
theorem dX10_refusesMove_20 : decode cX10_refusesMove 20 = .ok (.if_icmp .ne 8, 3) := by decide +kernel
theorem dX10_refusesMove_23 : decode cX10_refusesMove 23 = .ok (.bipush (-2), 2) := by decide +kernel
theorem dX10_refusesMove_25 : decode cX10_refusesMove 25 = .ok (.goto 4, 3) := by decide +kernel
theorem dX10_refusesMove_28 : decode cX10_refusesMove 28 = .ok (.iconst 0, 1) := by decide +kernel
theorem dX10_refusesMove_29 : decode cX10_refusesMove 29 = .ok (.ireturn, 1) := by decide +kernel
theorem dX10_lay_0 : decode cX10_lay 0 = .ok (.iconst 0, 1) := by decide +kernel
theorem dX10_lay_1 : decode cX10_lay 1 = .ok (.istore_n 3, 1) := by decide +kernel
theorem dX10_lay_2 : decode cX10_lay 2 = .ok (.iload_n 3, 1) := by decide +kernel
theorem dX10_lay_3 : decode cX10_lay 3 = .ok (.bipush 21, 2) := by decide +kernel
theorem dX10_lay_5 : decode cX10_lay 5 = .ok (.if_icmp .ge 17, 3) := by decide +kernel
theorem dX10_lay_8 : decode cX10_lay 8 = .ok (.aload_n 1, 1) := by decide +kernel
theorem dX10_lay_9 : decode cX10_lay 9 = .ok (.iload_n 2, 1) := by decide +kernel
theorem dX10_lay_10 : decode cX10_lay 10 = .ok (.iload_n 3, 1) := by decide +kernel
theorem dX10_lay_11 : decode cX10_lay 11 = .ok (.iadd, 1) := by decide +kernel
theorem dX10_lay_12 : decode cX10_lay 12 = .ok (.aload_n 0, 1) := by decide +kernel
theorem dX10_lay_13 : decode cX10_lay 13 = .ok (.iload_n 3, 1) := by decide +kernel
theorem dX10_lay_14 : decode cX10_lay 14 = .ok (.iaload, 1) := by decide +kernel
theorem dX10_lay_15 : decode cX10_lay 15 = .ok (.iastore, 1) := by decide +kernel
theorem dX10_lay_16 : decode cX10_lay 16 = .ok (.iinc 3 1, 3) := by decide +kernel
theorem dX10_lay_19 : decode cX10_lay 19 = .ok (.goto (-17), 3) := by decide +kernel
theorem dX10_lay_22 : decode cX10_lay 22 = .ok (.return_, 1) := by decide +kernel
theorem dX10_remember_0 : decode cX10_remember 0 = .ok (.aload_n 0, 1) := by decide +kernel
theorem dX10_remember_1 : decode cX10_remember 1 = .ok (.getfield 159, 3) := by decide +kernel
theorem dX10_remember_4 : decode cX10_remember 4 = .ok (.bipush 12, 2) := by decide +kernel
theorem dX10_remember_6 : decode cX10_remember 6 = .ok (.if_icmp .ne 43, 3) := by decide +kernel
theorem dX10_remember_9 : decode cX10_remember 9 = .ok (.iconst 0, 1) := by decide +kernel
theorem dX10_remember_10 : decode cX10_remember 10 = .ok (.istore_n 2, 1) := by decide +kernel
theorem dX10_remember_11 : decode cX10_remember 11 = .ok (.iload_n 2, 1) := by decide +kernel
theorem dX10_remember_12 : decode cX10_remember 12 = .ok (.sipush 231, 3) := by decide +kernel
theorem dX10_remember_15 : decode cX10_remember 15 = .ok (.if_icmp .ge 24, 3) := by decide +kernel
theorem dX10_remember_18 : decode cX10_remember 18 = .ok (.aload_n 0, 1) := by decide +kernel
theorem dX10_remember_19 : decode cX10_remember 19 = .ok (.getfield 50, 3) := by decide +kernel
theorem dX10_remember_22 : decode cX10_remember 22 = .ok (.iload_n 2, 1) := by decide +kernel
theorem dX10_remember_23 : decode cX10_remember 23 = .ok (.aload_n 0, 1) := by decide +kernel
theorem dX10_remember_24 : decode cX10_remember 24 = .ok (.getfield 50, 3) := by decide +kernel
theorem dX10_remember_27 : decode cX10_remember 27 = .ok (.iload_n 2, 1) := by decide +kernel
theorem dX10_remember_28 : decode cX10_remember 28 = .ok (.bipush 21, 2) := by decide +kernel
theorem dX10_remember_30 : decode cX10_remember 30 = .ok (.iadd, 1) := by decide +kernel
theorem dX10_remember_31 : decode cX10_remember 31 = .ok (.iaload, 1) := by decide +kernel
theorem dX10_remember_32 : decode cX10_remember 32 = .ok (.iastore, 1) := by decide +kernel
theorem dX10_remember_33 : decode cX10_remember 33 = .ok (.iinc 2 1, 3) := by decide +kernel
theorem dX10_remember_36 : decode cX10_remember 36 = .ok (.goto (-25), 3) := by decide +kernel
theorem dX10_remember_39 : decode cX10_remember 39 = .ok (.aload_n 0, 1) := by decide +kernel
theorem dX10_remember_40 : decode cX10_remember 40 = .ok (.dup, 1) := by decide +kernel
theorem dX10_remember_41 : decode cX10_remember 41 = .ok (.getfield 159, 3) := by decide +kernel
theorem dX10_remember_44 : decode cX10_remember 44 = .ok (.iconst 1, 1) := by decide +kernel
theorem dX10_remember_45 : decode cX10_remember 45 = .ok (.isub, 1) := by decide +kernel
theorem dX10_remember_46 : decode cX10_remember 46 = .ok (.putfield 159, 3) := by decide +kernel
theorem dX10_remember_49 : decode cX10_remember 49 = .ok (.aload_n 1, 1) := by decide +kernel
theorem dX10_remember_50 : decode cX10_remember 50 = .ok (.aload_n 0, 1) := by decide +kernel
theorem dX10_remember_51 : decode cX10_remember 51 = .ok (.getfield 50, 3) := by decide +kernel
theorem dX10_remember_54 : decode cX10_remember 54 = .ok (.bipush 21, 2) := by decide +kernel
theorem dX10_remember_56 : decode cX10_remember 56 = .ok (.aload_n 0, 1) := by decide +kernel
theorem dX10_remember_57 : decode cX10_remember 57 = .ok (.getfield 159, 3) := by decide +kernel
theorem dX10_remember_60 : decode cX10_remember 60 = .ok (.imul, 1) := by decide +kernel
theorem dX10_remember_61 : decode cX10_remember 61 = .ok (.invokestatic 257, 3) := by decide +kernel
theorem dX10_remember_64 : decode cX10_remember 64 = .ok (.aload_n 0, 1) := by decide +kernel
theorem dX10_remember_65 : decode cX10_remember 65 = .ok (.dup, 1) := by decide +kernel
theorem dX10_remember_66 : decode cX10_remember 66 = .ok (.getfield 159, 3) := by decide +kernel
theorem dX10_remember_69 : decode cX10_remember 69 = .ok (.iconst 1, 1) := by decide +kernel
theorem dX10_remember_70 : decode cX10_remember 70 = .ok (.iadd, 1) := by decide +kernel
theorem dX10_remember_71 : decode cX10_remember 71 = .ok (.putfield 159, 3) := by decide +kernel
theorem dX10_remember_74 : decode cX10_remember 74 = .ok (.return_, 1) := by decide +kernel
theorem dX10_moveOf_0 : decode cX10_moveOf 0 = .ok (.iload_n 1, 1) := by decide +kernel
theorem dX10_moveOf_1 : decode cX10_moveOf 1 = .ok (.iconst (-1), 1) := by decide +kernel
theorem dX10_moveOf_2 : decode cX10_moveOf 2 = .ok (.if_icmp .ne 8, 3) := by decide +kernel
theorem dX10_moveOf_5 : decode cX10_moveOf 5 = .ok (.bipush 9, 2) := by decide +kernel
theorem dX10_moveOf_7 : decode cX10_moveOf 7 = .ok (.goto 29, 3) := by decide +kernel
theorem dX10_moveOf_10 : decode cX10_moveOf 10 = .ok (.bipush 9, 2) := by decide +kernel
theorem dX10_moveOf_12 : decode cX10_moveOf 12 = .ok (.aload_n 0, 1) := by decide +kernel
theorem dX10_moveOf_13 : decode cX10_moveOf 13 = .ok (.getfield 31, 3) := by decide +kernel
theorem dX10_moveOf_16 : decode cX10_moveOf 16 = .ok (.iconst 3, 1) := by decide +kernel
theorem dX10_moveOf_17 : decode cX10_moveOf 17 = .ok (.iaload, 1) := by decide +kernel
theorem dX10_moveOf_18 : decode cX10_moveOf 18 = .ok (.aload_n 0, 1) := by decide +kernel
theorem dX10_moveOf_19 : decode cX10_moveOf 19 = .ok (.getfield 25, 3) := by decide +kernel
theorem dX10_moveOf_22 : decode cX10_moveOf 22 = .ok (.iload_n 1, 1) := by decide +kernel
theorem dX10_moveOf_23 : decode cX10_moveOf 23 = .ok (.iaload, 1) := by decide +kernel
theorem dX10_moveOf_24 : decode cX10_moveOf 24 = .ok (.aload_n 0, 1) := by decide +kernel
theorem dX10_moveOf_25 : decode cX10_moveOf 25 = .ok (.getfield 25, 3) := by decide +kernel
theorem dX10_moveOf_28 : decode cX10_moveOf 28 = .ok (.iload_n 2, 1) := by decide +kernel
theorem dX10_moveOf_29 : decode cX10_moveOf 29 = .ok (.iaload, 1) := by decide +kernel
theorem dX10_moveOf_30 : decode cX10_moveOf 30 = .ok (.isub, 1) := by decide +kernel
theorem dX10_moveOf_31 : decode cX10_moveOf 31 = .ok (.invokestatic 206, 3) := by decide +kernel
theorem dX10_moveOf_34 : decode cX10_moveOf 34 = .ok (.imul, 1) := by decide +kernel
theorem dX10_moveOf_35 : decode cX10_moveOf 35 = .ok (.iadd, 1) := by decide +kernel
theorem dX10_moveOf_36 : decode cX10_moveOf 36 = .ok (.ireturn, 1) := by decide +kernel
theorem dX10_empty_0 : decode cX10_empty 0 = .ok (.iconst 0, 1) := by decide +kernel
theorem dX10_empty_1 : decode cX10_empty 1 = .ok (.istore_n 1, 1) := by decide +kernel
theorem dX10_empty_2 : decode cX10_empty 2 = .ok (.iconst 0, 1) := by decide +kernel
theorem dX10_empty_3 : decode cX10_empty 3 = .ok (.istore_n 2, 1) := by decide +kernel
theorem dX10_empty_4 : decode cX10_empty 4 = .ok (.iload_n 2, 1) := by decide +kernel
theorem dX10_empty_5 : decode cX10_empty 5 = .ok (.aload_n 0, 1) := by decide +kernel
theorem dX10_empty_6 : decode cX10_empty 6 = .ok (.getfield 94, 3) := by decide +kernel
theorem dX10_empty_9 : decode cX10_empty 9 = .ok (.if_icmp .ge 32, 3) := by decide +kernel
theorem dX10_empty_12 : decode cX10_empty 12 = .ok (.aload_n 0, 1) := by decide +kernel
theorem dX10_empty_13 : decode cX10_empty 13 = .ok (.getfield 9, 3) := by decide +kernel
theorem dX10_empty_16 : decode cX10_empty 16 = .ok (.iload_n 2, 1) := by decide +kernel
theorem dX10_empty_17 : decode cX10_empty 17 = .ok (.iaload, 1) := by decide +kernel
theorem dX10_empty_18 : decode cX10_empty 18 = .ok (.iconst 1, 1) := by decide +kernel
theorem dX10_empty_19 : decode cX10_empty 19 = .ok (.if_icmp .eq 6, 3) := by decide +kernel
theorem dX10_empty_22 : decode cX10_empty 22 = .ok (.goto 13, 3) := by decide +kernel
theorem dX10_empty_25 : decode cX10_empty 25 = .ok (.aload_n 0, 1) := by decide +kernel
theorem dX10_empty_26 : decode cX10_empty 26 = .ok (.getfield 9, 3) := by decide +kernel
theorem dX10_empty_29 : decode cX10_empty 29 = .ok (.iload_n 2, 1) := by decide +kernel
theorem dX10_empty_30 : decode cX10_empty 30 = .ok (.iconst 2, 1) := by decide +kernel
theorem dX10_empty_31 : decode cX10_empty 31 = .ok (.iastore, 1) := by decide +kernel
theorem dX10_empty_32 : decode cX10_empty 32 = .ok (.iinc 1 1, 3) := by decide +kernel
theorem dX10_empty_35 : decode cX10_empty 35 = .ok (.iinc 2 1, 3) := by decide +kernel
theorem dX10_empty_38 : decode cX10_empty 38 = .ok (.goto (-34), 3) := by decide +kernel
theorem dX10_empty_41 : decode cX10_empty 41 = .ok (.iload_n 1, 1) := by decide +kernel
theorem dX10_empty_42 : decode cX10_empty 42 = .ok (.ireturn, 1) := by decide +kernel
theorem dX10_passBy_0 : decode cX10_passBy 0 = .ok (.aload_n 0, 1) := by decide +kernel
theorem dX10_passBy_1 : decode cX10_passBy 1 = .ok (.getfield 9, 3) := by decide +kernel
theorem dX10_passBy_4 : decode cX10_passBy 4 = .ok (.bipush 20, 2) := by decide +kernel
theorem dX10_passBy_6 : decode cX10_passBy 6 = .ok (.sipush 9999, 3) := by decide +kernel
theorem dX10_passBy_9 : decode cX10_passBy 9 = .ok (.aload_n 0, 1) := by decide +kernel
theorem dX10_passBy_10 : decode cX10_passBy 10 = .ok (.getfield 9, 3) := by decide +kernel
theorem dX10_passBy_13 : decode cX10_passBy 13 = .ok (.bipush 20, 2) := by decide +kernel
theorem dX10_passBy_15 : decode cX10_passBy 15 = .ok (.iaload, 1) := by decide +kernel
theorem dX10_passBy_16 : decode cX10_passBy 16 = .ok (.iload_n 1, 1) := by decide +kernel
theorem dX10_passBy_17 : decode cX10_passBy 17 = .ok (.iadd, 1) := by decide +kernel
theorem dX10_passBy_18 : decode cX10_passBy 18 = .ok (.invokestatic 224, 3) := by decide +kernel
theorem dX10_passBy_21 : decode cX10_passBy 21 = .ok (.iastore, 1) := by decide +kernel
theorem dX10_passBy_22 : decode cX10_passBy 22 = .ok (.return_, 1) := by decide +kernel
theorem dX10_goMove_0 : decode cX10_goMove 0 = .ok (.aload_n 0, 1) := by decide +kernel
theorem dX10_goMove_1 : decode cX10_goMove 1 = .ok (.aload_n 0, 1) := by decide +kernel
theorem dX10_goMove_2 : decode cX10_goMove 2 = .ok (.getfield 9, 3) := by decide +kernel
theorem dX10_goMove_5 : decode cX10_goMove 5 = .ok (.bipush 17, 2) := by decide +kernel
theorem dX10_goMove_7 : decode cX10_goMove 7 = .ok (.iaload, 1) := by decide +kernel
theorem dX10_goMove_8 : decode cX10_goMove 8 = .ok (.iload_n 1, 1) := by decide +kernel
theorem dX10_goMove_9 : decode cX10_goMove 9 = .ok (.invokevirtual 261, 3) := by decide +kernel
theorem dX10_goMove_12 : decode cX10_goMove 12 = .ok (.istore_n 2, 1) := by decide +kernel
theorem dX10_goMove_13 : decode cX10_goMove 13 = .ok (.aload_n 0, 1) := by decide +kernel
theorem dX10_goMove_14 : decode cX10_goMove 14 = .ok (.aload_n 0, 1) := by decide +kernel
theorem dX10_goMove_15 : decode cX10_goMove 15 = .ok (.getfield 9, 3) := by decide +kernel
theorem dX10_goMove_18 : decode cX10_goMove 18 = .ok (.iconst 1, 1) := by decide +kernel
theorem dX10_goMove_19 : decode cX10_goMove 19 = .ok (.invokevirtual 244, 3) := by decide +kernel
theorem dX10_goMove_22 : decode cX10_goMove 22 = .ok (.ifCond .eq 28, 3) := by decide +kernel
theorem dX10_goMove_25 : decode cX10_goMove 25 = .ok (.aload_n 0, 1) := by decide +kernel
theorem dX10_goMove_26 : decode cX10_goMove 26 = .ok (.getfield 9, 3) := by decide +kernel
theorem dX10_goMove_29 : decode cX10_goMove 29 = .ok (.bipush 17, 2) := by decide +kernel
theorem dX10_goMove_31 : decode cX10_goMove 31 = .ok (.iaload, 1) := by decide +kernel
theorem dX10_goMove_32 : decode cX10_goMove 32 = .ok (.iconst (-1), 1) := by decide +kernel
theorem dX10_goMove_33 : decode cX10_goMove 33 = .ok (.if_icmp .eq 17, 3) := by decide +kernel
theorem dX10_goMove_36 : decode cX10_goMove 36 = .ok (.iload_n 2, 1) := by decide +kernel
theorem dX10_goMove_37 : decode cX10_goMove 37 = .ok (.aload_n 0, 1) := by decide +kernel
theorem dX10_goMove_38 : decode cX10_goMove 38 = .ok (.aload_n 0, 1) := by decide +kernel
theorem dX10_goMove_39 : decode cX10_goMove 39 = .ok (.getfield 9, 3) := by decide +kernel
theorem dX10_goMove_42 : decode cX10_goMove 42 = .ok (.bipush 17, 2) := by decide +kernel
theorem dX10_goMove_44 : decode cX10_goMove 44 = .ok (.iaload, 1) := by decide +kernel
theorem dX10_goMove_45 : decode cX10_goMove 45 = .ok (.invokevirtual 254, 3) := by decide +kernel
theorem dX10_goMove_48 : decode cX10_goMove 48 = .ok (.iadd, 1) := by decide +kernel
theorem dX10_goMove_49 : decode cX10_goMove 49 = .ok (.istore_n 2, 1) := by decide +kernel
theorem dX10_goMove_50 : decode cX10_goMove 50 = .ok (.aload_n 0, 1) := by decide +kernel
theorem dX10_goMove_51 : decode cX10_goMove 51 = .ok (.invokevirtual 264, 3) := by decide +kernel
theorem dX10_goMove_54 : decode cX10_goMove 54 = .ok (.pop, 1) := by decide +kernel
theorem dX10_goMove_55 : decode cX10_goMove 55 = .ok (.aload_n 0, 1) := by decide +kernel
theorem dX10_goMove_56 : decode cX10_goMove 56 = .ok (.getfield 9, 3) := by decide +kernel
theorem dX10_goMove_59 : decode cX10_goMove 59 = .ok (.bipush 17, 2) := by decide +kernel
theorem dX10_goMove_61 : decode cX10_goMove 61 = .ok (.iload_n 1, 1) := by decide +kernel
theorem dX10_goMove_62 : decode cX10_goMove 62 = .ok (.iastore, 1) := by decide +kernel
theorem dX10_goMove_63 : decode cX10_goMove 63 = .ok (.aload_n 0, 1) := by decide +kernel
theorem dX10_goMove_64 : decode cX10_goMove 64 = .ok (.iload_n 2, 1) := by decide +kernel
theorem dX10_goMove_65 : decode cX10_goMove 65 = .ok (.invokevirtual 267, 3) := by decide +kernel
theorem dX10_goMove_68 : decode cX10_goMove 68 = .ok (.iload_n 2, 1) := by decide +kernel
theorem dX10_goMove_69 : decode cX10_goMove 69 = .ok (.ireturn, 1) := by decide +kernel
theorem dX10_move_0 : decode cX10_move 0 = .ok (.aload_n 0, 1) := by decide +kernel
theorem dX10_move_1 : decode cX10_move 1 = .ok (.iconst 0, 1) := by decide +kernel
theorem dX10_move_2 : decode cX10_move 2 = .ok (.putfield 87, 3) := by decide +kernel
theorem dX10_move_5 : decode cX10_move 5 = .ok (.aload_n 0, 1) := by decide +kernel
theorem dX10_move_6 : decode cX10_move 6 = .ok (.iload_n 1, 1) := by decide +kernel
theorem dX10_move_7 : decode cX10_move 7 = .ok (.invokevirtual 270, 3) := by decide +kernel
theorem dX10_move_10 : decode cX10_move 10 = .ok (.istore_n 2, 1) := by decide +kernel
theorem dX10_move_11 : decode cX10_move 11 = .ok (.iload_n 2, 1) := by decide +kernel
theorem dX10_move_12 : decode cX10_move 12 = .ok (.ifCond .ge 5, 3) := by decide +kernel
theorem dX10_move_15 : decode cX10_move 15 = .ok (.iload_n 2, 1) := by decide +kernel
theorem dX10_move_16 : decode cX10_move 16 = .ok (.ireturn, 1) := by decide +kernel
theorem dX10_move_17 : decode cX10_move 17 = .ok (.aload_n 0, 1) := by decide +kernel
theorem dX10_move_18 : decode cX10_move 18 = .ok (.aload_n 0, 1) := by decide +kernel
theorem dX10_move_19 : decode cX10_move 19 = .ok (.getfield 9, 3) := by decide +kernel
theorem dX10_move_22 : decode cX10_move 22 = .ok (.invokevirtual 273, 3) := by decide +kernel
theorem dX10_move_25 : decode cX10_move 25 = .ok (.aload_n 0, 1) := by decide +kernel
theorem dX10_move_26 : decode cX10_move 26 = .ok (.iload_n 1, 1) := by decide +kernel
theorem dX10_move_27 : decode cX10_move 27 = .ok (.invokevirtual 277, 3) := by decide +kernel
theorem dX10_move_30 : decode cX10_move 30 = .ok (.ireturn, 1) := by decide +kernel
theorem dX10_foot_0 : decode cX10_foot 0 = .ok (.aload_n 0, 1) := by decide +kernel
theorem dX10_foot_1 : decode cX10_foot 1 = .ok (.iconst 0, 1) := by decide +kernel
theorem dX10_foot_2 : decode cX10_foot 2 = .ok (.putfield 87, 3) := by decide +kernel
theorem dX10_foot_5 : decode cX10_foot 5 = .ok (.iload_n 1, 1) := by decide +kernel
theorem dX10_foot_6 : decode cX10_foot 6 = .ok (.iconst 0, 1) := by decide +kernel
theorem dX10_foot_7 : decode cX10_foot 7 = .ok (.iconst 1, 1) := by decide +kernel
theorem dX10_foot_8 : decode cX10_foot 8 = .ok (.invokestatic 97, 3) := by decide +kernel
theorem dX10_foot_11 : decode cX10_foot 11 = .ok (.ifCond .ne 5, 3) := by decide +kernel
theorem dX10_foot_14 : decode cX10_foot 14 = .ok (.iconst (-1), 1) := by decide +kernel
theorem dX10_foot_15 : decode cX10_foot 15 = .ok (.ireturn, 1) := by decide +kernel
theorem dX10_foot_16 : decode cX10_foot 16 = .ok (.aload_n 0, 1) := by decide +kernel
theorem dX10_foot_17 : decode cX10_foot 17 = .ok (.aload_n 0, 1) := by decide +kernel
theorem dX10_foot_18 : decode cX10_foot 18 = .ok (.getfield 9, 3) := by decide +kernel
theorem dX10_foot_21 : decode cX10_foot 21 = .ok (.invokevirtual 273, 3) := by decide +kernel
theorem dX10_foot_24 : decode cX10_foot 24 = .ok (.aload_n 0, 1) := by decide +kernel
theorem dX10_foot_25 : decode cX10_foot 25 = .ok (.getfield 9, 3) := by decide +kernel
theorem dX10_foot_28 : decode cX10_foot 28 = .ok (.bipush 18, 2) := by decide +kernel
theorem dX10_foot_30 : decode cX10_foot 30 = .ok (.iaload, 1) := by decide +kernel
theorem dX10_foot_31 : decode cX10_foot 31 = .ok (.istore_n 2, 1) := by decide +kernel
theorem dX10_foot_32 : decode cX10_foot 32 = .ok (.aload_n 0, 1) := by decide +kernel
theorem dX10_foot_33 : decode cX10_foot 33 = .ok (.getfield 9, 3) := by decide +kernel
theorem dX10_foot_36 : decode cX10_foot 36 = .ok (.bipush 18, 2) := by decide +kernel
theorem dX10_foot_38 : decode cX10_foot 38 = .ok (.iload_n 1, 1) := by decide +kernel
theorem dX10_foot_39 : decode cX10_foot 39 = .ok (.iastore, 1) := by decide +kernel
theorem dX10_foot_40 : decode cX10_foot 40 = .ok (.iload_n 2, 1) := by decide +kernel
theorem dX10_foot_41 : decode cX10_foot 41 = .ok (.ireturn, 1) := by decide +kernel
theorem dX10_reachBy_0 : decode cX10_reachBy 0 = .ok (.aload_n 0, 1) := by decide +kernel
theorem dX10_reachBy_1 : decode cX10_reachBy 1 = .ok (.getfield 31, 3) := by decide +kernel
theorem dX10_reachBy_4 : decode cX10_reachBy 4 = .ok (.iconst 0, 1) := by decide +kernel
theorem dX10_reachBy_5 : decode cX10_reachBy 5 = .ok (.iaload, 1) := by decide +kernel
theorem dX10_reachBy_6 : decode cX10_reachBy 6 = .ok (.iload_n 1, 1) := by decide +kernel
theorem dX10_reachBy_7 : decode cX10_reachBy 7 = .ok (.aload_n 0, 1) := by decide +kernel
theorem dX10_reachBy_8 : decode cX10_reachBy 8 = .ok (.getfield 31, 3) := by decide +kernel
theorem dX10_reachBy_11 : decode cX10_reachBy 11 = .ok (.iconst 1, 1) := by decide +kernel
theorem dX10_reachBy_12 : decode cX10_reachBy 12 = .ok (.iaload, 1) := by decide +kernel
theorem dX10_reachBy_13 : decode cX10_reachBy 13 = .ok (.imul, 1) := by decide +kernel
theorem dX10_reachBy_14 : decode cX10_reachBy 14 = .ok (.iadd, 1) := by decide +kernel
theorem dX10_reachBy_15 : decode cX10_reachBy 15 = .ok (.iload_n 2, 1) := by decide +kernel
theorem dX10_reachBy_16 : decode cX10_reachBy 16 = .ok (.aload_n 0, 1) := by decide +kernel
theorem dX10_reachBy_17 : decode cX10_reachBy 17 = .ok (.getfield 31, 3) := by decide +kernel
theorem dX10_reachBy_20 : decode cX10_reachBy 20 = .ok (.iconst 2, 1) := by decide +kernel
theorem dX10_reachBy_21 : decode cX10_reachBy 21 = .ok (.iaload, 1) := by decide +kernel
theorem dX10_reachBy_22 : decode cX10_reachBy 22 = .ok (.imul, 1) := by decide +kernel
theorem dX10_reachBy_23 : decode cX10_reachBy 23 = .ok (.iadd, 1) := by decide +kernel
theorem dX10_reachBy_24 : decode cX10_reachBy 24 = .ok (.ireturn, 1) := by decide +kernel
theorem dX10_isWithin_0 : decode cX10_isWithin 0 = .ok (.aload_n 0, 1) := by decide +kernel
theorem dX10_isWithin_1 : decode cX10_isWithin 1 = .ok (.iload_n 1, 1) := by decide +kernel
theorem dX10_isWithin_2 : decode cX10_isWithin 2 = .ok (.iload_n 2, 1) := by decide +kernel
theorem dX10_isWithin_3 : decode cX10_isWithin 3 = .ok (.invokevirtual 190, 3) := by decide +kernel
theorem dX10_isWithin_6 : decode cX10_isWithin 6 = .ok (.aload_n 0, 1) := by decide +kernel
theorem dX10_isWithin_7 : decode cX10_isWithin 7 = .ok (.iload_n 1, 1) := by decide +kernel
theorem dX10_isWithin_8 : decode cX10_isWithin 8 = .ok (.iload_n 2, 1) := by decide +kernel
theorem dX10_isWithin_9 : decode cX10_isWithin 9 = .ok (.invokevirtual 190, 3) := by decide +kernel
theorem dX10_isWithin_12 : decode cX10_isWithin 12 = .ok (.imul, 1) := by decide +kernel
theorem dX10_isWithin_13 : decode cX10_isWithin 13 = .ok (.aload_n 0, 1) := by decide +kernel
theorem dX10_isWithin_14 : decode cX10_isWithin 14 = .ok (.iload_n 1, 1) := by decide +kernel
theorem dX10_isWithin_15 : decode cX10_isWithin 15 = .ok (.iload_n 2, 1) := by decide +kernel
theorem dX10_isWithin_16 : decode cX10_isWithin 16 = .ok (.invokevirtual 194, 3) := by decide +kernel
theorem dX10_isWithin_19 : decode cX10_isWithin 19 = .ok (.aload_n 0, 1) := by decide +kernel
theorem dX10_isWithin_20 : decode cX10_isWithin 20 = .ok (.iload_n 1, 1) := by decide +kernel
theorem dX10_isWithin_21 : decode cX10_isWithin 21 = .ok (.iload_n 2, 1) := by decide +kernel
theorem dX10_isWithin_22 : decode cX10_isWithin 22 = .ok (.invokevirtual 194, 3) := by decide +kernel
theorem dX10_isWithin_25 : decode cX10_isWithin 25 = .ok (.imul, 1) := by decide +kernel
theorem dX10_isWithin_26 : decode cX10_isWithin 26 = .ok (.iadd, 1) := by decide +kernel
theorem dX10_isWithin_27 : decode cX10_isWithin 27 = .ok (.iload_n 3, 1) := by decide +kernel
theorem dX10_isWithin_28 : decode cX10_isWithin 28 = .ok (.iload_n 3, 1) := by decide +kernel
theorem dX10_isWithin_29 : decode cX10_isWithin 29 = .ok (.imul, 1) := by decide +kernel
theorem dX10_isWithin_30 : decode cX10_isWithin 30 = .ok (.if_icmp .gt 7, 3) := by decide +kernel
theorem dX10_isWithin_33 : decode cX10_isWithin 33 = .ok (.iconst 1, 1) := by decide +kernel
theorem dX10_isWithin_34 : decode cX10_isWithin 34 = .ok (.goto 4, 3) := by decide +kernel
theorem dX10_isWithin_37 : decode cX10_isWithin 37 = .ok (.iconst 0, 1) := by decide +kernel
theorem dX10_isWithin_38 : decode cX10_isWithin 38 = .ok (.ireturn, 1) := by decide +kernel
theorem dX10_refusesPick_0 : decode cX10_refusesPick 0 = .ok (.aload_n 0, 1) := by decide +kernel
theorem dX10_refusesPick_1 : decode cX10_refusesPick 1 = .ok (.iload_n 1, 1) := by decide +kernel
theorem dX10_refusesPick_2 : decode cX10_refusesPick 2 = .ok (.invokevirtual 237, 3) := by decide +kernel
theorem dX10_refusesPick_5 : decode cX10_refusesPick 5 = .ok (.ifCond .eq 12, 3) := by decide +kernel
theorem dX10_refusesPick_8 : decode cX10_refusesPick 8 = .ok (.iload_n 2, 1) := by decide +kernel
theorem dX10_refusesPick_9 : decode cX10_refusesPick 9 = .ok (.iconst 0, 1) := by decide +kernel
theorem dX10_refusesPick_10 : decode cX10_refusesPick 10 = .ok (.iconst 1, 1) := by decide +kernel
theorem dX10_refusesPick_11 : decode cX10_refusesPick 11 = .ok (.invokestatic 97, 3) := by decide +kernel
theorem dX10_refusesPick_14 : decode cX10_refusesPick 14 = .ok (.ifCond .ne 5, 3) := by decide +kernel
theorem dX10_refusesPick_17 : decode cX10_refusesPick 17 = .ok (.iconst (-1), 1) := by decide +kernel
theorem dX10_refusesPick_18 : decode cX10_refusesPick 18 = .ok (.ireturn, 1) := by decide +kernel
theorem dX10_refusesPick_19 : decode cX10_refusesPick 19 = .ok (.aload_n 0, 1) := by decide +kernel
theorem dX10_refusesPick_20 : decode cX10_refusesPick 20 = .ok (.getfield 9, 3) := by decide +kernel
theorem dX10_refusesPick_23 : decode cX10_refusesPick 23 = .ok (.iload_n 1, 1) := by decide +kernel
theorem dX10_refusesPick_24 : decode cX10_refusesPick 24 = .ok (.iaload, 1) := by decide +kernel
theorem dX10_refusesPick_25 : decode cX10_refusesPick 25 = .ok (.ifCond .eq 6, 3) := by decide +kernel
theorem dX10_refusesPick_28 : decode cX10_refusesPick 28 = .ok (.bipush (-2), 2) := by decide +kernel
theorem dX10_refusesPick_30 : decode cX10_refusesPick 30 = .ok (.ireturn, 1) := by decide +kernel
theorem dX10_refusesPick_31 : decode cX10_refusesPick 31 = .ok (.aload_n 0, 1) := by decide +kernel
theorem dX10_refusesPick_32 : decode cX10_refusesPick 32 = .ok (.getfield 22, 3) := by decide +kernel
theorem dX10_refusesPick_35 : decode cX10_refusesPick 35 = .ok (.iload_n 1, 1) := by decide +kernel
theorem dX10_refusesPick_36 : decode cX10_refusesPick 36 = .ok (.iaload, 1) := by decide +kernel
theorem dX10_refusesPick_37 : decode cX10_refusesPick 37 = .ok (.aload_n 0, 1) := by decide +kernel
theorem dX10_refusesPick_38 : decode cX10_refusesPick 38 = .ok (.getfield 9, 3) := by decide +kernel
theorem dX10_refusesPick_41 : decode cX10_refusesPick 41 = .ok (.bipush 19, 2) := by decide +kernel
theorem dX10_refusesPick_43 : decode cX10_refusesPick 43 = .ok (.iaload, 1) := by decide +kernel
theorem dX10_refusesPick_44 : decode cX10_refusesPick 44 = .ok (.if_icmp .le 6, 3) := by decide +kernel
theorem dX10_refusesPick_47 : decode cX10_refusesPick 47 = .ok (.bipush (-3), 2) := by decide +kernel
theorem dX10_refusesPick_49 : decode cX10_refusesPick 49 = .ok (.ireturn, 1) := by decide +kernel
theorem dX10_refusesPick_50 : decode cX10_refusesPick 50 = .ok (.aload_n 0, 1) := by decide +kernel
theorem dX10_refusesPick_51 : decode cX10_refusesPick 51 = .ok (.getfield 9, 3) := by decide +kernel
theorem dX10_refusesPick_54 : decode cX10_refusesPick 54 = .ok (.bipush 17, 2) := by decide +kernel
theorem dX10_refusesPick_56 : decode cX10_refusesPick 56 = .ok (.iaload, 1) := by decide +kernel
theorem dX10_refusesPick_57 : decode cX10_refusesPick 57 = .ok (.iconst (-1), 1) := by decide +kernel
theorem dX10_refusesPick_58 : decode cX10_refusesPick 58 = .ok (.if_icmp .eq 30, 3) := by decide +kernel
theorem dX10_refusesPick_61 : decode cX10_refusesPick 61 = .ok (.aload_n 0, 1) := by decide +kernel
theorem dX10_refusesPick_62 : decode cX10_refusesPick 62 = .ok (.iload_n 1, 1) := by decide +kernel
theorem dX10_refusesPick_63 : decode cX10_refusesPick 63 = .ok (.aload_n 0, 1) := by decide +kernel
theorem dX10_refusesPick_64 : decode cX10_refusesPick 64 = .ok (.getfield 9, 3) := by decide +kernel
theorem dX10_refusesPick_67 : decode cX10_refusesPick 67 = .ok (.bipush 17, 2) := by decide +kernel
theorem dX10_refusesPick_69 : decode cX10_refusesPick 69 = .ok (.iaload, 1) := by decide +kernel
theorem dX10_refusesPick_70 : decode cX10_refusesPick 70 = .ok (.aload_n 0, 1) := by decide +kernel
theorem dX10_refusesPick_71 : decode cX10_refusesPick 71 = .ok (.aload_n 0, 1) := by decide +kernel
theorem dX10_refusesPick_72 : decode cX10_refusesPick 72 = .ok (.getfield 9, 3) := by decide +kernel
theorem dX10_refusesPick_75 : decode cX10_refusesPick 75 = .ok (.bipush 18, 2) := by decide +kernel
theorem dX10_refusesPick_77 : decode cX10_refusesPick 77 = .ok (.iaload, 1) := by decide +kernel
theorem dX10_refusesPick_78 : decode cX10_refusesPick 78 = .ok (.iload_n 2, 1) := by decide +kernel
theorem dX10_refusesPick_79 : decode cX10_refusesPick 79 = .ok (.invokevirtual 214, 3) := by decide +kernel
theorem dX10_refusesPick_82 : decode cX10_refusesPick 82 = .ok (.invokevirtual 217, 3) := by decide +kernel
theorem dX10_refusesPick_85 : decode cX10_refusesPick 85 = .ok (.ifCond .ne 6, 3) := by decide +kernel
theorem dX10_refusesPick_88 : decode cX10_refusesPick 88 = .ok (.bipush (-4), 2) := by decide +kernel
theorem dX10_refusesPick_90 : decode cX10_refusesPick 90 = .ok (.ireturn, 1) := by decide +kernel
theorem dX10_refusesPick_91 : decode cX10_refusesPick 91 = .ok (.aload_n 0, 1) := by decide +kernel
theorem dX10_refusesPick_92 : decode cX10_refusesPick 92 = .ok (.aload_n 0, 1) := by decide +kernel
theorem dX10_refusesPick_93 : decode cX10_refusesPick 93 = .ok (.getfield 9, 3) := by decide +kernel
theorem dX10_refusesPick_96 : decode cX10_refusesPick 96 = .ok (.iconst 1, 1) := by decide +kernel
theorem dX10_refusesPick_97 : decode cX10_refusesPick 97 = .ok (.invokevirtual 244, 3) := by decide +kernel
theorem dX10_refusesPick_100 : decode cX10_refusesPick 100 = .ok (.invokestatic 280, 3) := by decide +kernel
theorem dX10_refusesPick_103 : decode cX10_refusesPick 103 = .ok (.aload_n 0, 1) := by decide +kernel
theorem dX10_refusesPick_104 : decode cX10_refusesPick 104 = .ok (.getfield 31, 3) := by decide +kernel
theorem dX10_refusesPick_107 : decode cX10_refusesPick 107 = .ok (.iconst 4, 1) := by decide +kernel
theorem dX10_refusesPick_108 : decode cX10_refusesPick 108 = .ok (.iaload, 1) := by decide +kernel
theorem dX10_refusesPick_109 : decode cX10_refusesPick 109 = .ok (.if_icmp .lt 8, 3) := by decide +kernel
theorem dX10_refusesPick_112 : decode cX10_refusesPick 112 = .ok (.bipush (-5), 2) := by decide +kernel
theorem dX10_refusesPick_114 : decode cX10_refusesPick 114 = .ok (.goto 4, 3) := by decide +kernel
theorem dX10_refusesPick_117 : decode cX10_refusesPick 117 = .ok (.iconst 0, 1) := by decide +kernel
theorem dX10_refusesPick_118 : decode cX10_refusesPick 118 = .ok (.ireturn, 1) := by decide +kernel
theorem dX10_secondsOf_0 : decode cX10_secondsOf 0 = .ok (.iconst 2, 1) := by decide +kernel
theorem dX10_secondsOf_1 : decode cX10_secondsOf 1 = .ok (.aload_n 0, 1) := by decide +kernel
theorem dX10_secondsOf_2 : decode cX10_secondsOf 2 = .ok (.iload_n 1, 1) := by decide +kernel
theorem dX10_secondsOf_3 : decode cX10_secondsOf 3 = .ok (.iload_n 2, 1) := by decide +kernel
theorem dX10_secondsOf_4 : decode cX10_secondsOf 4 = .ok (.invokevirtual 190, 3) := by decide +kernel
theorem dX10_secondsOf_7 : decode cX10_secondsOf 7 = .ok (.iconst 4, 1) := by decide +kernel
theorem dX10_secondsOf_8 : decode cX10_secondsOf 8 = .ok (.idiv, 1) := by decide +kernel
theorem dX10_secondsOf_9 : decode cX10_secondsOf 9 = .ok (.iadd, 1) := by decide +kernel
theorem dX10_secondsOf_10 : decode cX10_secondsOf 10 = .ok (.aload_n 0, 1) := by decide +kernel
theorem dX10_secondsOf_11 : decode cX10_secondsOf 11 = .ok (.iload_n 1, 1) := by decide +kernel
theorem dX10_secondsOf_12 : decode cX10_secondsOf 12 = .ok (.iload_n 2, 1) := by decide +kernel
theorem dX10_secondsOf_13 : decode cX10_secondsOf 13 = .ok (.invokevirtual 194, 3) := by decide +kernel
theorem dX10_secondsOf_16 : decode cX10_secondsOf 16 = .ok (.iconst 2, 1) := by decide +kernel
theorem dX10_secondsOf_17 : decode cX10_secondsOf 17 = .ok (.idiv, 1) := by decide +kernel
theorem dX10_secondsOf_18 : decode cX10_secondsOf 18 = .ok (.iadd, 1) := by decide +kernel
theorem dX10_secondsOf_19 : decode cX10_secondsOf 19 = .ok (.istore 5, 2) := by decide +kernel
theorem dX10_secondsOf_21 : decode cX10_secondsOf 21 = .ok (.aload_n 0, 1) := by decide +kernel
theorem dX10_secondsOf_22 : decode cX10_secondsOf 22 = .ok (.getfield 203, 3) := by decide +kernel
theorem dX10_secondsOf_25 : decode cX10_secondsOf 25 = .ok (.ifCond .le 55, 3) := by decide +kernel
theorem dX10_secondsOf_28 : decode cX10_secondsOf 28 = .ok (.aload_n 0, 1) := by decide +kernel
theorem dX10_secondsOf_29 : decode cX10_secondsOf 29 = .ok (.aload_n 0, 1) := by decide +kernel
theorem dX10_secondsOf_30 : decode cX10_secondsOf 30 = .ok (.getfield 47, 3) := by decide +kernel
theorem dX10_secondsOf_33 : decode cX10_secondsOf 33 = .ok (.aload_n 0, 1) := by decide +kernel
theorem dX10_secondsOf_34 : decode cX10_secondsOf 34 = .ok (.getfield 203, 3) := by decide +kernel
theorem dX10_secondsOf_37 : decode cX10_secondsOf 37 = .ok (.bipush 40, 2) := by decide +kernel
theorem dX10_secondsOf_39 : decode cX10_secondsOf 39 = .ok (.invokevirtual 152, 3) := by decide +kernel
theorem dX10_secondsOf_42 : decode cX10_secondsOf 42 = .ok (.aload_n 0, 1) := by decide +kernel
theorem dX10_secondsOf_43 : decode cX10_secondsOf 43 = .ok (.iconst 1, 1) := by decide +kernel
theorem dX10_secondsOf_44 : decode cX10_secondsOf 44 = .ok (.putfield 177, 3) := by decide +kernel
theorem dX10_secondsOf_47 : decode cX10_secondsOf 47 = .ok (.aload_n 0, 1) := by decide +kernel
theorem dX10_secondsOf_48 : decode cX10_secondsOf 48 = .ok (.iload_n 1, 1) := by decide +kernel
theorem dX10_secondsOf_49 : decode cX10_secondsOf 49 = .ok (.putfield 184, 3) := by decide +kernel
theorem dX10_secondsOf_52 : decode cX10_secondsOf 52 = .ok (.aload_n 0, 1) := by decide +kernel
theorem dX10_secondsOf_53 : decode cX10_secondsOf 53 = .ok (.iload_n 2, 1) := by decide +kernel
theorem dX10_secondsOf_54 : decode cX10_secondsOf 54 = .ok (.putfield 187, 3) := by decide +kernel
theorem dX10_secondsOf_57 : decode cX10_secondsOf 57 = .ok (.aload_n 0, 1) := by decide +kernel
theorem dX10_secondsOf_58 : decode cX10_secondsOf 58 = .ok (.iload_n 3, 1) := by decide +kernel
theorem dX10_secondsOf_59 : decode cX10_secondsOf 59 = .ok (.putfield 200, 3) := by decide +kernel
theorem dX10_secondsOf_62 : decode cX10_secondsOf 62 = .ok (.aload_n 0, 1) := by decide +kernel
theorem dX10_secondsOf_63 : decode cX10_secondsOf 63 = .ok (.iload 4, 2) := by decide +kernel
theorem dX10_secondsOf_65 : decode cX10_secondsOf 65 = .ok (.putfield 197, 3) := by decide +kernel
theorem dX10_secondsOf_68 : decode cX10_secondsOf 68 = .ok (.aload_n 0, 1) := by decide +kernel
theorem dX10_secondsOf_69 : decode cX10_secondsOf 69 = .ok (.iconst 0, 1) := by decide +kernel
theorem dX10_secondsOf_70 : decode cX10_secondsOf 70 = .ok (.invokevirtual 174, 3) := by decide +kernel
theorem dX10_secondsOf_73 : decode cX10_secondsOf 73 = .ok (.istore 5, 2) := by decide +kernel
theorem dX10_secondsOf_75 : decode cX10_secondsOf 75 = .ok (.aload_n 0, 1) := by decide +kernel
theorem dX10_secondsOf_76 : decode cX10_secondsOf 76 = .ok (.iconst 0, 1) := by decide +kernel
theorem dX10_secondsOf_77 : decode cX10_secondsOf 77 = .ok (.putfield 177, 3) := by decide +kernel
theorem dX10_secondsOf_80 : decode cX10_secondsOf 80 = .ok (.iconst 1, 1) := by decide +kernel
theorem dX10_secondsOf_81 : decode cX10_secondsOf 81 = .ok (.bipush 99, 2) := by decide +kernel
theorem dX10_secondsOf_83 : decode cX10_secondsOf 83 = .ok (.iload 5, 2) := by decide +kernel
theorem dX10_secondsOf_85 : decode cX10_secondsOf 85 = .ok (.invokestatic 224, 3) := by decide +kernel
theorem dX10_secondsOf_88 : decode cX10_secondsOf 88 = .ok (.invokestatic 211, 3) := by decide +kernel
theorem dX10_secondsOf_91 : decode cX10_secondsOf 91 = .ok (.ireturn, 1) := by decide +kernel
theorem dX10_goPick_0 : decode cX10_goPick 0 = .ok (.aload_n 0, 1) := by decide +kernel
theorem dX10_goPick_1 : decode cX10_goPick 1 = .ok (.iload_n 1, 1) := by decide +kernel
theorem dX10_goPick_2 : decode cX10_goPick 2 = .ok (.aload_n 0, 1) := by decide +kernel
theorem dX10_goPick_3 : decode cX10_goPick 3 = .ok (.getfield 9, 3) := by decide +kernel
theorem dX10_goPick_6 : decode cX10_goPick 6 = .ok (.bipush 17, 2) := by decide +kernel
theorem dX10_goPick_8 : decode cX10_goPick 8 = .ok (.iaload, 1) := by decide +kernel
theorem dX10_goPick_9 : decode cX10_goPick 9 = .ok (.iload_n 2, 1) := by decide +kernel
theorem dX10_goPick_10 : decode cX10_goPick 10 = .ok (.aload_n 0, 1) := by decide +kernel
theorem dX10_goPick_11 : decode cX10_goPick 11 = .ok (.aload_n 0, 1) := by decide +kernel
theorem dX10_goPick_12 : decode cX10_goPick 12 = .ok (.getfield 9, 3) := by decide +kernel
theorem dX10_goPick_15 : decode cX10_goPick 15 = .ok (.iconst 1, 1) := by decide +kernel
theorem dX10_goPick_16 : decode cX10_goPick 16 = .ok (.invokevirtual 244, 3) := by decide +kernel
theorem dX10_goPick_19 : decode cX10_goPick 19 = .ok (.invokestatic 280, 3) := by decide +kernel
theorem dX10_goPick_22 : decode cX10_goPick 22 = .ok (.invokevirtual 285, 3) := by decide +kernel
theorem dX10_goPick_25 : decode cX10_goPick 25 = .ok (.istore_n 3, 1) := by decide +kernel
theorem dX10_goPick_26 : decode cX10_goPick 26 = .ok (.aload_n 0, 1) := by decide +kernel
theorem dX10_goPick_27 : decode cX10_goPick 27 = .ok (.getfield 9, 3) := by decide +kernel
theorem dX10_goPick_30 : decode cX10_goPick 30 = .ok (.bipush 16, 2) := by decide +kernel
theorem dX10_goPick_32 : decode cX10_goPick 32 = .ok (.dup2, 1) := by decide +kernel
theorem dX10_goPick_33 : decode cX10_goPick 33 = .ok (.iaload, 1) := by decide +kernel
theorem dX10_goPick_34 : decode cX10_goPick 34 = .ok (.aload_n 0, 1) := by decide +kernel
theorem dX10_goPick_35 : decode cX10_goPick 35 = .ok (.iload_n 1, 1) := by decide +kernel
theorem dX10_goPick_36 : decode cX10_goPick 36 = .ok (.aload_n 0, 1) := by decide +kernel
theorem dX10_goPick_37 : decode cX10_goPick 37 = .ok (.aload_n 0, 1) := by decide +kernel
theorem dX10_goPick_38 : decode cX10_goPick 38 = .ok (.getfield 9, 3) := by decide +kernel
theorem dX10_goPick_41 : decode cX10_goPick 41 = .ok (.iconst 0, 1) := by decide +kernel
theorem dX10_goPick_42 : decode cX10_goPick 42 = .ok (.invokevirtual 244, 3) := by decide +kernel
theorem dX10_goPick_45 : decode cX10_goPick 45 = .ok (.invokevirtual 248, 3) := by decide +kernel
theorem dX10_goPick_48 : decode cX10_goPick 48 = .ok (.ior, 1) := by decide +kernel
theorem dX10_goPick_49 : decode cX10_goPick 49 = .ok (.iastore, 1) := by decide +kernel
theorem dX10_goPick_50 : decode cX10_goPick 50 = .ok (.aload_n 0, 1) := by decide +kernel
theorem dX10_goPick_51 : decode cX10_goPick 51 = .ok (.getfield 9, 3) := by decide +kernel
theorem dX10_goPick_54 : decode cX10_goPick 54 = .ok (.iload_n 1, 1) := by decide +kernel
theorem dX10_goPick_55 : decode cX10_goPick 55 = .ok (.iconst 1, 1) := by decide +kernel
theorem dX10_goPick_56 : decode cX10_goPick 56 = .ok (.iastore, 1) := by decide +kernel
theorem dX10_goPick_57 : decode cX10_goPick 57 = .ok (.aload_n 0, 1) := by decide +kernel
theorem dX10_goPick_58 : decode cX10_goPick 58 = .ok (.iload_n 3, 1) := by decide +kernel
theorem dX10_goPick_59 : decode cX10_goPick 59 = .ok (.invokevirtual 267, 3) := by decide +kernel
theorem dX10_goPick_62 : decode cX10_goPick 62 = .ok (.iload_n 3, 1) := by decide +kernel
theorem dX10_goPick_63 : decode cX10_goPick 63 = .ok (.ireturn, 1) := by decide +kernel
theorem dX10_pick_0 : decode cX10_pick 0 = .ok (.aload_n 0, 1) := by decide +kernel
theorem dX10_pick_1 : decode cX10_pick 1 = .ok (.iconst 0, 1) := by decide +kernel
theorem dX10_pick_2 : decode cX10_pick 2 = .ok (.putfield 87, 3) := by decide +kernel
theorem dX10_pick_5 : decode cX10_pick 5 = .ok (.aload_n 0, 1) := by decide +kernel
theorem dX10_pick_6 : decode cX10_pick 6 = .ok (.iload_n 1, 1) := by decide +kernel
theorem dX10_pick_7 : decode cX10_pick 7 = .ok (.iload_n 2, 1) := by decide +kernel
theorem dX10_pick_8 : decode cX10_pick 8 = .ok (.invokevirtual 289, 3) := by decide +kernel
theorem dX10_pick_11 : decode cX10_pick 11 = .ok (.istore_n 3, 1) := by decide +kernel
theorem dX10_pick_12 : decode cX10_pick 12 = .ok (.iload_n 3, 1) := by decide +kernel
theorem dX10_pick_13 : decode cX10_pick 13 = .ok (.ifCond .ge 5, 3) := by decide +kernel
theorem dX10_pick_16 : decode cX10_pick 16 = .ok (.iload_n 3, 1) := by decide +kernel
theorem dX10_pick_17 : decode cX10_pick 17 = .ok (.ireturn, 1) := by decide +kernel
theorem dX10_pick_18 : decode cX10_pick 18 = .ok (.aload_n 0, 1) := by decide +kernel
theorem dX10_pick_19 : decode cX10_pick 19 = .ok (.aload_n 0, 1) := by decide +kernel
theorem dX10_pick_20 : decode cX10_pick 20 = .ok (.getfield 9, 3) := by decide +kernel
theorem dX10_pick_23 : decode cX10_pick 23 = .ok (.invokevirtual 273, 3) := by decide +kernel
theorem dX10_pick_26 : decode cX10_pick 26 = .ok (.aload_n 0, 1) := by decide +kernel
theorem dX10_pick_27 : decode cX10_pick 27 = .ok (.iload_n 1, 1) := by decide +kernel
theorem dX10_pick_28 : decode cX10_pick 28 = .ok (.iload_n 2, 1) := by decide +kernel
theorem dX10_pick_29 : decode cX10_pick 29 = .ok (.invokevirtual 292, 3) := by decide +kernel
theorem dX10_pick_32 : decode cX10_pick 32 = .ok (.ireturn, 1) := by decide +kernel
theorem dX10_canDown_0 : decode cX10_canDown 0 = .ok (.aload_n 0, 1) := by decide +kernel
theorem dX10_canDown_1 : decode cX10_canDown 1 = .ok (.getfield 9, 3) := by decide +kernel
theorem dX10_canDown_4 : decode cX10_canDown 4 = .ok (.bipush 17, 2) := by decide +kernel
theorem dX10_canDown_6 : decode cX10_canDown 6 = .ok (.iaload, 1) := by decide +kernel
theorem dX10_canDown_7 : decode cX10_canDown 7 = .ok (.iconst (-1), 1) := by decide +kernel
theorem dX10_canDown_8 : decode cX10_canDown 8 = .ok (.if_icmp .eq 19, 3) := by decide +kernel
theorem dX10_canDown_11 : decode cX10_canDown 11 = .ok (.aload_n 0, 1) := by decide +kernel
theorem dX10_canDown_12 : decode cX10_canDown 12 = .ok (.aload_n 0, 1) := by decide +kernel
theorem dX10_canDown_13 : decode cX10_canDown 13 = .ok (.getfield 9, 3) := by decide +kernel
theorem dX10_canDown_16 : decode cX10_canDown 16 = .ok (.iconst 1, 1) := by decide +kernel
theorem dX10_canDown_17 : decode cX10_canDown 17 = .ok (.invokevirtual 244, 3) := by decide +kernel
theorem dX10_canDown_20 : decode cX10_canDown 20 = .ok (.ifCond .eq 7, 3) := by decide +kernel
theorem dX10_canDown_23 : decode cX10_canDown 23 = .ok (.iconst 1, 1) := by decide +kernel
theorem dX10_canDown_24 : decode cX10_canDown 24 = .ok (.goto 4, 3) := by decide +kernel
theorem dX10_canDown_27 : decode cX10_canDown 27 = .ok (.iconst 0, 1) := by decide +kernel
theorem dX10_canDown_28 : decode cX10_canDown 28 = .ok (.ireturn, 1) := by decide +kernel
theorem dX10_goDown_0 : decode cX10_goDown 0 = .ok (.aload_n 0, 1) := by decide +kernel
theorem dX10_goDown_1 : decode cX10_goDown 1 = .ok (.aload_n 0, 1) := by decide +kernel
theorem dX10_goDown_2 : decode cX10_goDown 2 = .ok (.aload_n 0, 1) := by decide +kernel
theorem dX10_goDown_3 : decode cX10_goDown 3 = .ok (.getfield 9, 3) := by decide +kernel
theorem dX10_goDown_6 : decode cX10_goDown 6 = .ok (.bipush 17, 2) := by decide +kernel
theorem dX10_goDown_8 : decode cX10_goDown 8 = .ok (.iaload, 1) := by decide +kernel
theorem dX10_goDown_9 : decode cX10_goDown 9 = .ok (.invokevirtual 254, 3) := by decide +kernel
theorem dX10_goDown_12 : decode cX10_goDown 12 = .ok (.invokevirtual 267, 3) := by decide +kernel
theorem dX10_goDown_15 : decode cX10_goDown 15 = .ok (.aload_n 0, 1) := by decide +kernel
theorem dX10_goDown_16 : decode cX10_goDown 16 = .ok (.invokevirtual 264, 3) := by decide +kernel
theorem dX10_goDown_19 : decode cX10_goDown 19 = .ok (.ireturn, 1) := by decide +kernel
theorem dX10_down_0 : decode cX10_down 0 = .ok (.aload_n 0, 1) := by decide +kernel
theorem dX10_down_1 : decode cX10_down 1 = .ok (.iconst 0, 1) := by decide +kernel
theorem dX10_down_2 : decode cX10_down 2 = .ok (.putfield 87, 3) := by decide +kernel
theorem dX10_down_5 : decode cX10_down 5 = .ok (.aload_n 0, 1) := by decide +kernel
theorem dX10_down_6 : decode cX10_down 6 = .ok (.invokevirtual 295, 3) := by decide +kernel
theorem dX10_down_9 : decode cX10_down 9 = .ok (.ifCond .ne 6, 3) := by decide +kernel
theorem dX10_down_12 : decode cX10_down 12 = .ok (.bipush (-2), 2) := by decide +kernel
theorem dX10_down_14 : decode cX10_down 14 = .ok (.ireturn, 1) := by decide +kernel
theorem dX10_down_15 : decode cX10_down 15 = .ok (.aload_n 0, 1) := by decide +kernel
theorem dX10_down_16 : decode cX10_down 16 = .ok (.aload_n 0, 1) := by decide +kernel
theorem dX10_down_17 : decode cX10_down 17 = .ok (.getfield 9, 3) := by decide +kernel
theorem dX10_down_20 : decode cX10_down 20 = .ok (.invokevirtual 273, 3) := by decide +kernel
theorem dX10_down_23 : decode cX10_down 23 = .ok (.aload_n 0, 1) := by decide +kernel
theorem dX10_down_24 : decode cX10_down 24 = .ok (.invokevirtual 298, 3) := by decide +kernel
theorem dX10_down_27 : decode cX10_down 27 = .ok (.ireturn, 1) := by decide +kernel
theorem dX10_ripeOnes_0 : decode cX10_ripeOnes 0 = .ok (.iconst 0, 1) := by decide +kernel
theorem dX10_ripeOnes_1 : decode cX10_ripeOnes 1 = .ok (.istore_n 2, 1) := by decide +kernel
theorem dX10_ripeOnes_2 : decode cX10_ripeOnes 2 = .ok (.iconst 0, 1) := by decide +kernel
theorem dX10_ripeOnes_3 : decode cX10_ripeOnes 3 = .ok (.istore_n 3, 1) := by decide +kernel
theorem dX10_ripeOnes_4 : decode cX10_ripeOnes 4 = .ok (.iload_n 3, 1) := by decide +kernel
theorem dX10_ripeOnes_5 : decode cX10_ripeOnes 5 = .ok (.aload_n 0, 1) := by decide +kernel
theorem dX10_ripeOnes_6 : decode cX10_ripeOnes 6 = .ok (.getfield 94, 3) := by decide +kernel
theorem dX10_ripeOnes_9 : decode cX10_ripeOnes 9 = .ok (.if_icmp .ge 29, 3) := by decide +kernel
theorem dX10_ripeOnes_12 : decode cX10_ripeOnes 12 = .ok (.iload_n 2, 1) := by decide +kernel
theorem dX10_ripeOnes_13 : decode cX10_ripeOnes 13 = .ok (.aload_n 0, 1) := by decide +kernel
theorem dX10_ripeOnes_14 : decode cX10_ripeOnes 14 = .ok (.getfield 22, 3) := by decide +kernel
theorem dX10_ripeOnes_17 : decode cX10_ripeOnes 17 = .ok (.iload_n 3, 1) := by decide +kernel
theorem dX10_ripeOnes_18 : decode cX10_ripeOnes 18 = .ok (.iaload, 1) := by decide +kernel
theorem dX10_ripeOnes_19 : decode cX10_ripeOnes 19 = .ok (.iload_n 1, 1) := by decide +kernel
theorem dX10_ripeOnes_20 : decode cX10_ripeOnes 20 = .ok (.if_icmp .gt 9, 3) := by decide +kernel
theorem dX10_ripeOnes_23 : decode cX10_ripeOnes 23 = .ok (.iconst 1, 1) := by decide +kernel
theorem dX10_ripeOnes_24 : decode cX10_ripeOnes 24 = .ok (.iload_n 3, 1) := by decide +kernel
theorem dX10_ripeOnes_25 : decode cX10_ripeOnes 25 = .ok (.ishl, 1) := by decide +kernel
theorem dX10_ripeOnes_26 : decode cX10_ripeOnes 26 = .ok (.goto 4, 3) := by decide +kernel
theorem dX10_ripeOnes_29 : decode cX10_ripeOnes 29 = .ok (.iconst 0, 1) := by decide +kernel
theorem dX10_ripeOnes_30 : decode cX10_ripeOnes 30 = .ok (.ior, 1) := by decide +kernel
theorem dX10_ripeOnes_31 : decode cX10_ripeOnes 31 = .ok (.istore_n 2, 1) := by decide +kernel
theorem dX10_ripeOnes_32 : decode cX10_ripeOnes 32 = .ok (.iinc 3 1, 3) := by decide +kernel
