theorem dX9_fruit_141 : decode cX9_fruit 141 = .ok (.new 120, 3) := by decide +kernel
theorem dX9_fruit_144 : decode cX9_fruit 144 = .ok (.dup, 1) := by decide +kernel
theorem dX9_fruit_145 : decode cX9_fruit 145 = .ok (.invokespecial 122, 3) := by decide +kernel
theorem dX9_fruit_148 : decode cX9_fruit 148 = .ok (.athrow, 1) := by decide +kernel
theorem dX3_hasStanding_0 : decode cX3_hasStanding 0 = .ok (.iload_n 1, 1) := by decide +kernel
theorem dX3_hasStanding_1 : decode cX3_hasStanding 1 = .ok (.ifCond .lt 15, 3) := by decide +kernel
theorem dX3_hasStanding_4 : decode cX3_hasStanding 4 = .ok (.iload_n 1, 1) := by decide +kernel
theorem dX3_hasStanding_5 : decode cX3_hasStanding 5 = .ok (.aload_n 0, 1) := by decide +kernel
theorem dX3_hasStanding_6 : decode cX3_hasStanding 6 = .ok (.getfield 37, 3) := by decide +kernel
theorem dX3_hasStanding_9 : decode cX3_hasStanding 9 = .ok (.if_icmp .ge 7, 3) := by decide +kernel
theorem dX3_hasStanding_12 : decode cX3_hasStanding 12 = .ok (.iconst 1, 1) := by decide +kernel
theorem dX3_hasStanding_13 : decode cX3_hasStanding 13 = .ok (.goto 4, 3) := by decide +kernel
theorem dX3_hasStanding_16 : decode cX3_hasStanding 16 = .ok (.iconst 0, 1) := by decide +kernel
theorem dX3_hasStanding_17 : decode cX3_hasStanding 17 = .ok (.ireturn, 1) := by decide +kernel
theorem dX3_downSeconds_0 : decode cX3_downSeconds 0 = .ok (.iconst 3, 1) := by decide +kernel
theorem dX3_downSeconds_1 : decode cX3_downSeconds 1 = .ok (.aload_n 0, 1) := by decide +kernel
theorem dX3_downSeconds_2 : decode cX3_downSeconds 2 = .ok (.getfield 27, 3) := by decide +kernel
theorem dX3_downSeconds_5 : decode cX3_downSeconds 5 = .ok (.iload_n 1, 1) := by decide +kernel
theorem dX3_downSeconds_6 : decode cX3_downSeconds 6 = .ok (.iaload, 1) := by decide +kernel
theorem dX3_downSeconds_7 : decode cX3_downSeconds 7 = .ok (.bipush 9, 2) := by decide +kernel
theorem dX3_downSeconds_9 : decode cX3_downSeconds 9 = .ok (.iadd, 1) := by decide +kernel
theorem dX3_downSeconds_10 : decode cX3_downSeconds 10 = .ok (.bipush 10, 2) := by decide +kernel
theorem dX3_downSeconds_12 : decode cX3_downSeconds 12 = .ok (.idiv, 1) := by decide +kernel
theorem dX3_downSeconds_13 : decode cX3_downSeconds 13 = .ok (.iadd, 1) := by decide +kernel
theorem dX3_downSeconds_14 : decode cX3_downSeconds 14 = .ok (.ireturn, 1) := by decide +kernel
theorem dX9_standing_0 : decode cX9_standing 0 = .ok (.aload_n 0, 1) := by decide +kernel
theorem dX9_standing_1 : decode cX9_standing 1 = .ok (.getfield 34, 3) := by decide +kernel
theorem dX9_standing_4 : decode cX9_standing 4 = .ok (.iload_n 1, 1) := by decide +kernel
theorem dX9_standing_5 : decode cX9_standing 5 = .ok (.invokevirtual 150, 3) := by decide +kernel
theorem dX9_standing_8 : decode cX9_standing 8 = .ok (.ifCond .ne 11, 3) := by decide +kernel
theorem dX9_standing_11 : decode cX9_standing 11 = .ok (.new 120, 3) := by decide +kernel
theorem dX9_standing_14 : decode cX9_standing 14 = .ok (.dup, 1) := by decide +kernel
theorem dX9_standing_15 : decode cX9_standing 15 = .ok (.invokespecial 122, 3) := by decide +kernel
theorem dX9_standing_18 : decode cX9_standing 18 = .ok (.athrow, 1) := by decide +kernel
theorem dX9_standing_19 : decode cX9_standing 19 = .ok (.iload_n 2, 1) := by decide +kernel
theorem dX9_standing_20 : decode cX9_standing 20 = .ok (.tableswitch 57 0 2 #[28, 38, 48], 28) := by decide +kernel
theorem dX9_standing_48 : decode cX9_standing 48 = .ok (.aload_n 0, 1) := by decide +kernel
theorem dX9_standing_49 : decode cX9_standing 49 = .ok (.getfield 34, 3) := by decide +kernel
theorem dX9_standing_52 : decode cX9_standing 52 = .ok (.getfield 153, 3) := by decide +kernel
theorem dX9_standing_55 : decode cX9_standing 55 = .ok (.iload_n 1, 1) := by decide +kernel
theorem dX9_standing_56 : decode cX9_standing 56 = .ok (.iaload, 1) := by decide +kernel
theorem dX9_standing_57 : decode cX9_standing 57 = .ok (.ireturn, 1) := by decide +kernel
theorem dX9_standing_58 : decode cX9_standing 58 = .ok (.aload_n 0, 1) := by decide +kernel
theorem dX9_standing_59 : decode cX9_standing 59 = .ok (.getfield 34, 3) := by decide +kernel
theorem dX9_standing_62 : decode cX9_standing 62 = .ok (.getfield 156, 3) := by decide +kernel
theorem dX9_standing_65 : decode cX9_standing 65 = .ok (.iload_n 1, 1) := by decide +kernel
theorem dX9_standing_66 : decode cX9_standing 66 = .ok (.iaload, 1) := by decide +kernel
theorem dX9_standing_67 : decode cX9_standing 67 = .ok (.ireturn, 1) := by decide +kernel
theorem dX9_standing_68 : decode cX9_standing 68 = .ok (.aload_n 0, 1) := by decide +kernel
theorem dX9_standing_69 : decode cX9_standing 69 = .ok (.getfield 34, 3) := by decide +kernel
theorem dX9_standing_72 : decode cX9_standing 72 = .ok (.iload_n 1, 1) := by decide +kernel
theorem dX9_standing_73 : decode cX9_standing 73 = .ok (.invokevirtual 159, 3) := by decide +kernel
theorem dX9_standing_76 : decode cX9_standing 76 = .ok (.ireturn, 1) := by decide +kernel
theorem dX9_standing_77 : decode cX9_standing 77 = .ok (.new 120, 3) := by decide +kernel
theorem dX9_standing_80 : decode cX9_standing 80 = .ok (.dup, 1) := by decide +kernel
theorem dX9_standing_81 : decode cX9_standing 81 = .ok (.invokespecial 122, 3) := by decide +kernel
theorem dX9_standing_84 : decode cX9_standing 84 = .ok (.athrow, 1) := by decide +kernel
theorem dX9_set_0 : decode cX9_set 0 = .ok (.iload_n 1, 1) := by decide +kernel
theorem dX9_set_1 : decode cX9_set 1 = .ok (.ifCond .lt 26, 3) := by decide +kernel
theorem dX9_set_4 : decode cX9_set 4 = .ok (.iload_n 1, 1) := by decide +kernel
theorem dX9_set_5 : decode cX9_set 5 = .ok (.iconst 4, 1) := by decide +kernel
theorem dX9_set_6 : decode cX9_set 6 = .ok (.if_icmp .gt 21, 3) := by decide +kernel
theorem dX9_set_9 : decode cX9_set 9 = .ok (.iload_n 2, 1) := by decide +kernel
theorem dX9_set_10 : decode cX9_set 10 = .ok (.getstatic 162, 3) := by decide +kernel
theorem dX9_set_13 : decode cX9_set 13 = .ok (.iload_n 1, 1) := by decide +kernel
theorem dX9_set_14 : decode cX9_set 14 = .ok (.iaload, 1) := by decide +kernel
theorem dX9_set_15 : decode cX9_set 15 = .ok (.if_icmp .lt 12, 3) := by decide +kernel
theorem dX9_set_18 : decode cX9_set 18 = .ok (.iload_n 2, 1) := by decide +kernel
theorem dX9_set_19 : decode cX9_set 19 = .ok (.getstatic 165, 3) := by decide +kernel
theorem dX9_set_22 : decode cX9_set 22 = .ok (.iload_n 1, 1) := by decide +kernel
theorem dX9_set_23 : decode cX9_set 23 = .ok (.iaload, 1) := by decide +kernel
theorem dX9_set_24 : decode cX9_set 24 = .ok (.if_icmp .le 5, 3) := by decide +kernel
theorem dX9_set_27 : decode cX9_set 27 = .ok (.iconst (-1), 1) := by decide +kernel
theorem dX9_set_28 : decode cX9_set 28 = .ok (.ireturn, 1) := by decide +kernel
theorem dX9_set_29 : decode cX9_set 29 = .ok (.aload_n 0, 1) := by decide +kernel
theorem dX9_set_30 : decode cX9_set 30 = .ok (.getfield 34, 3) := by decide +kernel
theorem dX9_set_33 : decode cX9_set 33 = .ok (.getfield 168, 3) := by decide +kernel
theorem dX9_set_36 : decode cX9_set 36 = .ok (.iload_n 1, 1) := by decide +kernel
theorem dX9_set_37 : decode cX9_set 37 = .ok (.iaload, 1) := by decide +kernel
theorem dX9_set_38 : decode cX9_set 38 = .ok (.istore_n 3, 1) := by decide +kernel
theorem dX9_set_39 : decode cX9_set 39 = .ok (.aload_n 0, 1) := by decide +kernel
theorem dX9_set_40 : decode cX9_set 40 = .ok (.getfield 34, 3) := by decide +kernel
theorem dX9_set_43 : decode cX9_set 43 = .ok (.getfield 168, 3) := by decide +kernel
theorem dX9_set_46 : decode cX9_set 46 = .ok (.iload_n 1, 1) := by decide +kernel
theorem dX9_set_47 : decode cX9_set 47 = .ok (.iload_n 2, 1) := by decide +kernel
theorem dX9_set_48 : decode cX9_set 48 = .ok (.iastore, 1) := by decide +kernel
theorem dX9_set_49 : decode cX9_set 49 = .ok (.iload_n 3, 1) := by decide +kernel
theorem dX9_set_50 : decode cX9_set 50 = .ok (.ireturn, 1) := by decide +kernel
theorem dX3_fillWorths_0 : decode cX3_fillWorths 0 = .ok (.iconst 0, 1) := by decide +kernel
theorem dX3_fillWorths_1 : decode cX3_fillWorths 1 = .ok (.istore 5, 2) := by decide +kernel
theorem dX3_fillWorths_3 : decode cX3_fillWorths 3 = .ok (.iload_n 3, 1) := by decide +kernel
theorem dX3_fillWorths_4 : decode cX3_fillWorths 4 = .ok (.istore 6, 2) := by decide +kernel
theorem dX3_fillWorths_6 : decode cX3_fillWorths 6 = .ok (.iconst 0, 1) := by decide +kernel
theorem dX3_fillWorths_7 : decode cX3_fillWorths 7 = .ok (.istore 7, 2) := by decide +kernel
theorem dX3_fillWorths_9 : decode cX3_fillWorths 9 = .ok (.iload 7, 2) := by decide +kernel
theorem dX3_fillWorths_11 : decode cX3_fillWorths 11 = .ok (.aload_n 0, 1) := by decide +kernel
theorem dX3_fillWorths_12 : decode cX3_fillWorths 12 = .ok (.getfield 33, 3) := by decide +kernel
theorem dX3_fillWorths_15 : decode cX3_fillWorths 15 = .ok (.if_icmp .ge 81, 3) := by decide +kernel
theorem dX3_fillWorths_18 : decode cX3_fillWorths 18 = .ok (.iload_n 1, 1) := by decide +kernel
theorem dX3_fillWorths_19 : decode cX3_fillWorths 19 = .ok (.ifCond .ne 9, 3) := by decide +kernel
theorem dX3_fillWorths_22 : decode cX3_fillWorths 22 = .ok (.iload 6, 2) := by decide +kernel
theorem dX3_fillWorths_24 : decode cX3_fillWorths 24 = .ok (.i2b, 1) := by decide +kernel
theorem dX3_fillWorths_25 : decode cX3_fillWorths 25 = .ok (.goto 16, 3) := by decide +kernel
theorem dX3_fillWorths_28 : decode cX3_fillWorths 28 = .ok (.iload_n 1, 1) := by decide +kernel
theorem dX3_fillWorths_29 : decode cX3_fillWorths 29 = .ok (.iconst 1, 1) := by decide +kernel
theorem dX3_fillWorths_30 : decode cX3_fillWorths 30 = .ok (.if_icmp .ne 9, 3) := by decide +kernel
theorem dX3_fillWorths_33 : decode cX3_fillWorths 33 = .ok (.iload 6, 2) := by decide +kernel
theorem dX3_fillWorths_35 : decode cX3_fillWorths 35 = .ok (.i2s, 1) := by decide +kernel
theorem dX3_fillWorths_36 : decode cX3_fillWorths 36 = .ok (.goto 5, 3) := by decide +kernel
theorem dX3_fillWorths_39 : decode cX3_fillWorths 39 = .ok (.iload 6, 2) := by decide +kernel
theorem dX3_fillWorths_41 : decode cX3_fillWorths 41 = .ok (.istore 8, 2) := by decide +kernel
theorem dX3_fillWorths_43 : decode cX3_fillWorths 43 = .ok (.aload_n 0, 1) := by decide +kernel
theorem dX3_fillWorths_44 : decode cX3_fillWorths 44 = .ok (.getfield 18, 3) := by decide +kernel
theorem dX3_fillWorths_47 : decode cX3_fillWorths 47 = .ok (.iload 7, 2) := by decide +kernel
theorem dX3_fillWorths_49 : decode cX3_fillWorths 49 = .ok (.iload 7, 2) := by decide +kernel
theorem dX3_fillWorths_51 : decode cX3_fillWorths 51 = .ok (.iload_n 2, 1) := by decide +kernel
theorem dX3_fillWorths_52 : decode cX3_fillWorths 52 = .ok (.if_icmp .ge 17, 3) := by decide +kernel
theorem dX3_fillWorths_55 : decode cX3_fillWorths 55 = .ok (.iconst 0, 1) := by decide +kernel
theorem dX3_fillWorths_56 : decode cX3_fillWorths 56 = .ok (.bipush 9, 2) := by decide +kernel
theorem dX3_fillWorths_58 : decode cX3_fillWorths 58 = .ok (.iload 8, 2) := by decide +kernel
theorem dX3_fillWorths_60 : decode cX3_fillWorths 60 = .ok (.invokestatic 80, 3) := by decide +kernel
theorem dX3_fillWorths_63 : decode cX3_fillWorths 63 = .ok (.invokestatic 86, 3) := by decide +kernel
theorem dX3_fillWorths_66 : decode cX3_fillWorths 66 = .ok (.goto 4, 3) := by decide +kernel
theorem dX3_fillWorths_69 : decode cX3_fillWorths 69 = .ok (.iconst 0, 1) := by decide +kernel
theorem dX3_fillWorths_70 : decode cX3_fillWorths 70 = .ok (.iastore, 1) := by decide +kernel
theorem dX3_fillWorths_71 : decode cX3_fillWorths 71 = .ok (.iload 5, 2) := by decide +kernel
theorem dX3_fillWorths_73 : decode cX3_fillWorths 73 = .ok (.aload_n 0, 1) := by decide +kernel
theorem dX3_fillWorths_74 : decode cX3_fillWorths 74 = .ok (.getfield 18, 3) := by decide +kernel
theorem dX3_fillWorths_77 : decode cX3_fillWorths 77 = .ok (.iload 7, 2) := by decide +kernel
theorem dX3_fillWorths_79 : decode cX3_fillWorths 79 = .ok (.iaload, 1) := by decide +kernel
theorem dX3_fillWorths_80 : decode cX3_fillWorths 80 = .ok (.iadd, 1) := by decide +kernel
theorem dX3_fillWorths_81 : decode cX3_fillWorths 81 = .ok (.istore 5, 2) := by decide +kernel
theorem dX3_fillWorths_83 : decode cX3_fillWorths 83 = .ok (.iload 6, 2) := by decide +kernel
theorem dX3_fillWorths_85 : decode cX3_fillWorths 85 = .ok (.iload 4, 2) := by decide +kernel
theorem dX3_fillWorths_87 : decode cX3_fillWorths 87 = .ok (.iadd, 1) := by decide +kernel
theorem dX3_fillWorths_88 : decode cX3_fillWorths 88 = .ok (.istore 6, 2) := by decide +kernel
theorem dX3_fillWorths_90 : decode cX3_fillWorths 90 = .ok (.iinc 7 1, 3) := by decide +kernel
theorem dX3_fillWorths_93 : decode cX3_fillWorths 93 = .ok (.goto (-84), 3) := by decide +kernel
theorem dX3_fillWorths_96 : decode cX3_fillWorths 96 = .ok (.iload 5, 2) := by decide +kernel
theorem dX3_fillWorths_98 : decode cX3_fillWorths 98 = .ok (.ireturn, 1) := by decide +kernel
theorem dX9_sheet_0 : decode cX9_sheet 0 = .ok (.iload_n 1, 1) := by decide +kernel
theorem dX9_sheet_1 : decode cX9_sheet 1 = .ok (.ifCond .lt 14, 3) := by decide +kernel
theorem dX9_sheet_4 : decode cX9_sheet 4 = .ok (.iload_n 1, 1) := by decide +kernel
theorem dX9_sheet_5 : decode cX9_sheet 5 = .ok (.iconst 3, 1) := by decide +kernel
theorem dX9_sheet_6 : decode cX9_sheet 6 = .ok (.if_icmp .gt 9, 3) := by decide +kernel
theorem dX9_sheet_9 : decode cX9_sheet 9 = .ok (.iload_n 2, 1) := by decide +kernel
theorem dX9_sheet_10 : decode cX9_sheet 10 = .ok (.bipush 16, 2) := by decide +kernel
theorem dX9_sheet_12 : decode cX9_sheet 12 = .ok (.if_icmp .le 5, 3) := by decide +kernel
theorem dX9_sheet_15 : decode cX9_sheet 15 = .ok (.iconst (-1), 1) := by decide +kernel
theorem dX9_sheet_16 : decode cX9_sheet 16 = .ok (.ireturn, 1) := by decide +kernel
theorem dX9_sheet_17 : decode cX9_sheet 17 = .ok (.iload_n 1, 1) := by decide +kernel
theorem dX9_sheet_18 : decode cX9_sheet 18 = .ok (.iconst 3, 1) := by decide +kernel
theorem dX9_sheet_19 : decode cX9_sheet 19 = .ok (.if_icmp .ne 18, 3) := by decide +kernel
theorem dX9_sheet_22 : decode cX9_sheet 22 = .ok (.aload_n 0, 1) := by decide +kernel
theorem dX9_sheet_23 : decode cX9_sheet 23 = .ok (.getfield 34, 3) := by decide +kernel
theorem dX9_sheet_26 : decode cX9_sheet 26 = .ok (.iconst 2, 1) := by decide +kernel
theorem dX9_sheet_27 : decode cX9_sheet 27 = .ok (.iconst 0, 1) := by decide +kernel
theorem dX9_sheet_28 : decode cX9_sheet 28 = .ok (.iconst 0, 1) := by decide +kernel
theorem dX9_sheet_29 : decode cX9_sheet 29 = .ok (.iconst 0, 1) := by decide +kernel
theorem dX9_sheet_30 : decode cX9_sheet 30 = .ok (.invokevirtual 171, 3) := by decide +kernel
theorem dX9_sheet_33 : decode cX9_sheet 33 = .ok (.pop, 1) := by decide +kernel
theorem dX9_sheet_34 : decode cX9_sheet 34 = .ok (.bipush (-3), 2) := by decide +kernel
theorem dX9_sheet_36 : decode cX9_sheet 36 = .ok (.ireturn, 1) := by decide +kernel
theorem dX9_sheet_37 : decode cX9_sheet 37 = .ok (.iload_n 2, 1) := by decide +kernel
theorem dX9_sheet_38 : decode cX9_sheet 38 = .ok (.ifCond .ge 8, 3) := by decide +kernel
theorem dX9_sheet_41 : decode cX9_sheet 41 = .ok (.bipush (-2), 2) := by decide +kernel
theorem dX9_sheet_43 : decode cX9_sheet 43 = .ok (.goto 15, 3) := by decide +kernel
theorem dX9_sheet_46 : decode cX9_sheet 46 = .ok (.aload_n 0, 1) := by decide +kernel
theorem dX9_sheet_47 : decode cX9_sheet 47 = .ok (.getfield 34, 3) := by decide +kernel
theorem dX9_sheet_50 : decode cX9_sheet 50 = .ok (.iload_n 1, 1) := by decide +kernel
theorem dX9_sheet_51 : decode cX9_sheet 51 = .ok (.iload_n 2, 1) := by decide +kernel
theorem dX9_sheet_52 : decode cX9_sheet 52 = .ok (.iload_n 3, 1) := by decide +kernel
theorem dX9_sheet_53 : decode cX9_sheet 53 = .ok (.iload 4, 2) := by decide +kernel
theorem dX9_sheet_55 : decode cX9_sheet 55 = .ok (.invokevirtual 171, 3) := by decide +kernel
theorem dX9_sheet_58 : decode cX9_sheet 58 = .ok (.ireturn, 1) := by decide +kernel
theorem dX2_write_0 : decode cX2_write 0 = .ok (.iload_n 2, 1) := by decide +kernel
theorem dX2_write_1 : decode cX2_write 1 = .ok (.ifCond .lt 12, 3) := by decide +kernel
theorem dX2_write_4 : decode cX2_write 4 = .ok (.iload_n 2, 1) := by decide +kernel
theorem dX2_write_5 : decode cX2_write 5 = .ok (.aload_n 1, 1) := by decide +kernel
theorem dX2_write_6 : decode cX2_write 6 = .ok (.arraylength, 1) := by decide +kernel
theorem dX2_write_7 : decode cX2_write 7 = .ok (.bipush 8, 2) := by decide +kernel
theorem dX2_write_9 : decode cX2_write 9 = .ok (.isub, 1) := by decide +kernel
theorem dX2_write_10 : decode cX2_write 10 = .ok (.if_icmp .le 4, 3) := by decide +kernel
theorem dX2_write_13 : decode cX2_write 13 = .ok (.return_, 1) := by decide +kernel
theorem dX2_write_14 : decode cX2_write 14 = .ok (.aload_n 1, 1) := by decide +kernel
theorem dX2_write_15 : decode cX2_write 15 = .ok (.iload_n 2, 1) := by decide +kernel
theorem dX2_write_16 : decode cX2_write 16 = .ok (.aload_n 0, 1) := by decide +kernel
theorem dX2_write_17 : decode cX2_write 17 = .ok (.getfield 15, 3) := by decide +kernel
theorem dX2_write_20 : decode cX2_write 20 = .ok (.iastore, 1) := by decide +kernel
theorem dX2_write_21 : decode cX2_write 21 = .ok (.aload_n 1, 1) := by decide +kernel
theorem dX2_write_22 : decode cX2_write 22 = .ok (.iload_n 2, 1) := by decide +kernel
theorem dX2_write_23 : decode cX2_write 23 = .ok (.iconst 1, 1) := by decide +kernel
theorem dX2_write_24 : decode cX2_write 24 = .ok (.iadd, 1) := by decide +kernel
theorem dX2_write_25 : decode cX2_write 25 = .ok (.aload_n 0, 1) := by decide +kernel
theorem dX2_write_26 : decode cX2_write 26 = .ok (.getfield 18, 3) := by decide +kernel
theorem dX2_write_29 : decode cX2_write 29 = .ok (.iastore, 1) := by decide +kernel
theorem dX2_write_30 : decode cX2_write 30 = .ok (.aload_n 1, 1) := by decide +kernel
theorem dX2_write_31 : decode cX2_write 31 = .ok (.iload_n 2, 1) := by decide +kernel
theorem dX2_write_32 : decode cX2_write 32 = .ok (.iconst 2, 1) := by decide +kernel
theorem dX2_write_33 : decode cX2_write 33 = .ok (.iadd, 1) := by decide +kernel
theorem dX2_write_34 : decode cX2_write 34 = .ok (.aload_n 0, 1) := by decide +kernel
theorem dX2_write_35 : decode cX2_write 35 = .ok (.getfield 21, 3) := by decide +kernel
theorem dX2_write_38 : decode cX2_write 38 = .ok (.iastore, 1) := by decide +kernel
theorem dX2_write_39 : decode cX2_write 39 = .ok (.aload_n 1, 1) := by decide +kernel
theorem dX2_write_40 : decode cX2_write 40 = .ok (.iload_n 2, 1) := by decide +kernel
theorem dX2_write_41 : decode cX2_write 41 = .ok (.iconst 3, 1) := by decide +kernel
theorem dX2_write_42 : decode cX2_write 42 = .ok (.iadd, 1) := by decide +kernel
theorem dX2_write_43 : decode cX2_write 43 = .ok (.aload_n 0, 1) := by decide +kernel
theorem dX2_write_44 : decode cX2_write 44 = .ok (.getfield 33, 3) := by decide +kernel
theorem dX2_write_47 : decode cX2_write 47 = .ok (.iastore, 1) := by decide +kernel
theorem dX2_write_48 : decode cX2_write 48 = .ok (.aload_n 1, 1) := by decide +kernel
theorem dX2_write_49 : decode cX2_write 49 = .ok (.iload_n 2, 1) := by decide +kernel
theorem dX2_write_50 : decode cX2_write 50 = .ok (.iconst 4, 1) := by decide +kernel
theorem dX2_write_51 : decode cX2_write 51 = .ok (.iadd, 1) := by decide +kernel
theorem dX2_write_52 : decode cX2_write 52 = .ok (.aload_n 0, 1) := by decide +kernel
theorem dX2_write_53 : decode cX2_write 53 = .ok (.getfield 9, 3) := by decide +kernel
theorem dX2_write_56 : decode cX2_write 56 = .ok (.iastore, 1) := by decide +kernel
theorem dX2_write_57 : decode cX2_write 57 = .ok (.aload_n 1, 1) := by decide +kernel
theorem dX2_write_58 : decode cX2_write 58 = .ok (.iload_n 2, 1) := by decide +kernel
theorem dX2_write_59 : decode cX2_write 59 = .ok (.iconst 5, 1) := by decide +kernel
theorem dX2_write_60 : decode cX2_write 60 = .ok (.iadd, 1) := by decide +kernel
theorem dX2_write_61 : decode cX2_write 61 = .ok (.aload_n 0, 1) := by decide +kernel
theorem dX2_write_62 : decode cX2_write 62 = .ok (.getfield 36, 3) := by decide +kernel
theorem dX2_write_65 : decode cX2_write 65 = .ok (.iastore, 1) := by decide +kernel
theorem dX2_write_66 : decode cX2_write 66 = .ok (.aload_n 1, 1) := by decide +kernel
theorem dX2_write_67 : decode cX2_write 67 = .ok (.iload_n 2, 1) := by decide +kernel
theorem dX2_write_68 : decode cX2_write 68 = .ok (.bipush 6, 2) := by decide +kernel
theorem dX2_write_70 : decode cX2_write 70 = .ok (.iadd, 1) := by decide +kernel
theorem dX2_write_71 : decode cX2_write 71 = .ok (.aload_n 0, 1) := by decide +kernel
theorem dX2_write_72 : decode cX2_write 72 = .ok (.getfield 39, 3) := by decide +kernel
theorem dX2_write_75 : decode cX2_write 75 = .ok (.iastore, 1) := by decide +kernel
theorem dX2_write_76 : decode cX2_write 76 = .ok (.aload_n 1, 1) := by decide +kernel
theorem dX2_write_77 : decode cX2_write 77 = .ok (.iload_n 2, 1) := by decide +kernel
theorem dX2_write_78 : decode cX2_write 78 = .ok (.bipush 7, 2) := by decide +kernel
theorem dX2_write_80 : decode cX2_write 80 = .ok (.iadd, 1) := by decide +kernel
theorem dX2_write_81 : decode cX2_write 81 = .ok (.aload_n 0, 1) := by decide +kernel
theorem dX2_write_82 : decode cX2_write 82 = .ok (.getfield 24, 3) := by decide +kernel
theorem dX2_write_85 : decode cX2_write 85 = .ok (.iastore, 1) := by decide +kernel
theorem dX2_write_86 : decode cX2_write 86 = .ok (.return_, 1) := by decide +kernel
theorem dX4_note_0 : decode cX4_note 0 = .ok (.aload_n 1, 1) := by decide +kernel
theorem dX4_note_1 : decode cX4_note 1 = .ok (.aload_n 0, 1) := by decide +kernel
theorem dX4_note_2 : decode cX4_note 2 = .ok (.getfield 11, 3) := by decide +kernel
theorem dX4_note_5 : decode cX4_note 5 = .ok (.aload_n 0, 1) := by decide +kernel
theorem dX4_note_6 : decode cX4_note 6 = .ok (.getfield 22, 3) := by decide +kernel
theorem dX4_note_9 : decode cX4_note 9 = .ok (.bipush 8, 2) := by decide +kernel
theorem dX4_note_11 : decode cX4_note 11 = .ok (.imul, 1) := by decide +kernel
theorem dX4_note_12 : decode cX4_note 12 = .ok (.invokevirtual 26, 3) := by decide +kernel
theorem dX4_note_15 : decode cX4_note 15 = .ok (.return_, 1) := by decide +kernel
theorem dX3_moveSeconds_0 : decode cX3_moveSeconds 0 = .ok (.iload_n 1, 1) := by decide +kernel
theorem dX3_moveSeconds_1 : decode cX3_moveSeconds 1 = .ok (.iconst (-1), 1) := by decide +kernel
theorem dX3_moveSeconds_2 : decode cX3_moveSeconds 2 = .ok (.if_icmp .ne 8, 3) := by decide +kernel
theorem dX3_moveSeconds_5 : decode cX3_moveSeconds 5 = .ok (.bipush 9, 2) := by decide +kernel
theorem dX3_moveSeconds_7 : decode cX3_moveSeconds 7 = .ok (.goto 29, 3) := by decide +kernel
theorem dX3_moveSeconds_10 : decode cX3_moveSeconds 10 = .ok (.bipush 9, 2) := by decide +kernel
theorem dX3_moveSeconds_12 : decode cX3_moveSeconds 12 = .ok (.aload_n 0, 1) := by decide +kernel
theorem dX3_moveSeconds_13 : decode cX3_moveSeconds 13 = .ok (.getfield 30, 3) := by decide +kernel
theorem dX3_moveSeconds_16 : decode cX3_moveSeconds 16 = .ok (.iconst 3, 1) := by decide +kernel
theorem dX3_moveSeconds_17 : decode cX3_moveSeconds 17 = .ok (.iaload, 1) := by decide +kernel
theorem dX3_moveSeconds_18 : decode cX3_moveSeconds 18 = .ok (.aload_n 0, 1) := by decide +kernel
theorem dX3_moveSeconds_19 : decode cX3_moveSeconds 19 = .ok (.getfield 24, 3) := by decide +kernel
theorem dX3_moveSeconds_22 : decode cX3_moveSeconds 22 = .ok (.iload_n 1, 1) := by decide +kernel
theorem dX3_moveSeconds_23 : decode cX3_moveSeconds 23 = .ok (.iaload, 1) := by decide +kernel
theorem dX3_moveSeconds_24 : decode cX3_moveSeconds 24 = .ok (.aload_n 0, 1) := by decide +kernel
theorem dX3_moveSeconds_25 : decode cX3_moveSeconds 25 = .ok (.getfield 24, 3) := by decide +kernel
theorem dX3_moveSeconds_28 : decode cX3_moveSeconds 28 = .ok (.iload_n 2, 1) := by decide +kernel
theorem dX3_moveSeconds_29 : decode cX3_moveSeconds 29 = .ok (.iaload, 1) := by decide +kernel
theorem dX3_moveSeconds_30 : decode cX3_moveSeconds 30 = .ok (.isub, 1) := by decide +kernel
theorem dX3_moveSeconds_31 : decode cX3_moveSeconds 31 = .ok (.invokestatic 89, 3) := by decide +kernel
theorem dX3_moveSeconds_34 : decode cX3_moveSeconds 34 = .ok (.imul, 1) := by decide +kernel
theorem dX3_moveSeconds_35 : decode cX3_moveSeconds 35 = .ok (.iadd, 1) := by decide +kernel
theorem dX3_moveSeconds_36 : decode cX3_moveSeconds 36 = .ok (.ireturn, 1) := by decide +kernel
theorem dX2_emptyApron_0 : decode cX2_emptyApron 0 = .ok (.aload_n 0, 1) := by decide +kernel
theorem dX2_emptyApron_1 : decode cX2_emptyApron 1 = .ok (.dup, 1) := by decide +kernel
theorem dX2_emptyApron_2 : decode cX2_emptyApron 2 = .ok (.getfield 18, 3) := by decide +kernel
theorem dX2_emptyApron_5 : decode cX2_emptyApron 5 = .ok (.aload_n 0, 1) := by decide +kernel
theorem dX2_emptyApron_6 : decode cX2_emptyApron 6 = .ok (.getfield 15, 3) := by decide +kernel
theorem dX2_emptyApron_9 : decode cX2_emptyApron 9 = .ok (.ior, 1) := by decide +kernel
theorem dX2_emptyApron_10 : decode cX2_emptyApron 10 = .ok (.putfield 18, 3) := by decide +kernel
theorem dX2_emptyApron_13 : decode cX2_emptyApron 13 = .ok (.aload_n 0, 1) := by decide +kernel
theorem dX2_emptyApron_14 : decode cX2_emptyApron 14 = .ok (.iconst 0, 1) := by decide +kernel
theorem dX2_emptyApron_15 : decode cX2_emptyApron 15 = .ok (.putfield 15, 3) := by decide +kernel
theorem dX2_emptyApron_18 : decode cX2_emptyApron 18 = .ok (.return_, 1) := by decide +kernel
theorem dX2_spend_0 : decode cX2_spend 0 = .ok (.aload_n 0, 1) := by decide +kernel
theorem dX2_spend_1 : decode cX2_spend 1 = .ok (.sipush 9999, 3) := by decide +kernel
theorem dX2_spend_4 : decode cX2_spend 4 = .ok (.aload_n 0, 1) := by decide +kernel
theorem dX2_spend_5 : decode cX2_spend 5 = .ok (.getfield 24, 3) := by decide +kernel
theorem dX2_spend_8 : decode cX2_spend 8 = .ok (.iload_n 1, 1) := by decide +kernel
theorem dX2_spend_9 : decode cX2_spend 9 = .ok (.iadd, 1) := by decide +kernel
theorem dX2_spend_10 : decode cX2_spend 10 = .ok (.invokestatic 27, 3) := by decide +kernel
theorem dX2_spend_13 : decode cX2_spend 13 = .ok (.putfield 24, 3) := by decide +kernel
theorem dX2_spend_16 : decode cX2_spend 16 = .ok (.return_, 1) := by decide +kernel
theorem dX0_setLadder_0 : decode cX0_setLadder 0 = .ok (.aload_n 0, 1) := by decide +kernel
theorem dX0_setLadder_1 : decode cX0_setLadder 1 = .ok (.getfield 12, 3) := by decide +kernel
theorem dX0_setLadder_4 : decode cX0_setLadder 4 = .ok (.iload_n 1, 1) := by decide +kernel
theorem dX0_setLadder_5 : decode cX0_setLadder 5 = .ok (.invokevirtual 104, 3) := by decide +kernel
theorem dX0_setLadder_8 : decode cX0_setLadder 8 = .ok (.ifCond .ne 5, 3) := by decide +kernel
theorem dX0_setLadder_11 : decode cX0_setLadder 11 = .ok (.iconst (-1), 1) := by decide +kernel
theorem dX0_setLadder_12 : decode cX0_setLadder 12 = .ok (.ireturn, 1) := by decide +kernel
theorem dX0_setLadder_13 : decode cX0_setLadder 13 = .ok (.iload_n 1, 1) := by decide +kernel
theorem dX0_setLadder_14 : decode cX0_setLadder 14 = .ok (.aload_n 0, 1) := by decide +kernel
theorem dX0_setLadder_15 : decode cX0_setLadder 15 = .ok (.getfield 21, 3) := by decide +kernel
theorem dX0_setLadder_18 : decode cX0_setLadder 18 = .ok (.getfield 53, 3) := by decide +kernel
theorem dX0_setLadder_21 : decode cX0_setLadder 21 = .ok (.if_icmp .ne 6, 3) := by decide +kernel
theorem dX0_setLadder_24 : decode cX0_setLadder 24 = .ok (.bipush (-2), 2) := by decide +kernel
theorem dX0_setLadder_26 : decode cX0_setLadder 26 = .ok (.ireturn, 1) := by decide +kernel
theorem dX0_setLadder_27 : decode cX0_setLadder 27 = .ok (.aload_n 0, 1) := by decide +kernel
theorem dX0_setLadder_28 : decode cX0_setLadder 28 = .ok (.getfield 12, 3) := by decide +kernel
theorem dX0_setLadder_31 : decode cX0_setLadder 31 = .ok (.aload_n 0, 1) := by decide +kernel
theorem dX0_setLadder_32 : decode cX0_setLadder 32 = .ok (.getfield 21, 3) := by decide +kernel
theorem dX0_setLadder_35 : decode cX0_setLadder 35 = .ok (.getfield 53, 3) := by decide +kernel
theorem dX0_setLadder_38 : decode cX0_setLadder 38 = .ok (.iload_n 1, 1) := by decide +kernel
theorem dX0_setLadder_39 : decode cX0_setLadder 39 = .ok (.invokevirtual 108, 3) := by decide +kernel
theorem dX0_setLadder_42 : decode cX0_setLadder 42 = .ok (.istore_n 2, 1) := by decide +kernel
theorem dX0_setLadder_43 : decode cX0_setLadder 43 = .ok (.aload_n 0, 1) := by decide +kernel
theorem dX0_setLadder_44 : decode cX0_setLadder 44 = .ok (.getfield 21, 3) := by decide +kernel
theorem dX0_setLadder_47 : decode cX0_setLadder 47 = .ok (.getfield 36, 3) := by decide +kernel
theorem dX0_setLadder_50 : decode cX0_setLadder 50 = .ok (.ifCond .eq 31, 3) := by decide +kernel
theorem dX0_setLadder_53 : decode cX0_setLadder 53 = .ok (.aload_n 0, 1) := by decide +kernel
theorem dX0_setLadder_54 : decode cX0_setLadder 54 = .ok (.getfield 21, 3) := by decide +kernel
theorem dX0_setLadder_57 : decode cX0_setLadder 57 = .ok (.getfield 53, 3) := by decide +kernel
theorem dX0_setLadder_60 : decode cX0_setLadder 60 = .ok (.iconst (-1), 1) := by decide +kernel
theorem dX0_setLadder_61 : decode cX0_setLadder 61 = .ok (.if_icmp .eq 20, 3) := by decide +kernel
theorem dX0_setLadder_64 : decode cX0_setLadder 64 = .ok (.iload_n 2, 1) := by decide +kernel
theorem dX0_setLadder_65 : decode cX0_setLadder 65 = .ok (.aload_n 0, 1) := by decide +kernel
theorem dX0_setLadder_66 : decode cX0_setLadder 66 = .ok (.getfield 12, 3) := by decide +kernel
theorem dX0_setLadder_69 : decode cX0_setLadder 69 = .ok (.aload_n 0, 1) := by decide +kernel
theorem dX0_setLadder_70 : decode cX0_setLadder 70 = .ok (.getfield 21, 3) := by decide +kernel
theorem dX0_setLadder_73 : decode cX0_setLadder 73 = .ok (.getfield 53, 3) := by decide +kernel
theorem dX0_setLadder_76 : decode cX0_setLadder 76 = .ok (.invokevirtual 111, 3) := by decide +kernel
theorem dX0_setLadder_79 : decode cX0_setLadder 79 = .ok (.iadd, 1) := by decide +kernel
theorem dX0_setLadder_80 : decode cX0_setLadder 80 = .ok (.istore_n 2, 1) := by decide +kernel
theorem dX0_setLadder_81 : decode cX0_setLadder 81 = .ok (.aload_n 0, 1) := by decide +kernel
theorem dX0_setLadder_82 : decode cX0_setLadder 82 = .ok (.getfield 21, 3) := by decide +kernel
theorem dX0_setLadder_85 : decode cX0_setLadder 85 = .ok (.invokevirtual 114, 3) := by decide +kernel
theorem dX0_setLadder_88 : decode cX0_setLadder 88 = .ok (.aload_n 0, 1) := by decide +kernel
theorem dX0_setLadder_89 : decode cX0_setLadder 89 = .ok (.getfield 21, 3) := by decide +kernel
theorem dX0_setLadder_92 : decode cX0_setLadder 92 = .ok (.iload_n 1, 1) := by decide +kernel
theorem dX0_setLadder_93 : decode cX0_setLadder 93 = .ok (.putfield 53, 3) := by decide +kernel
theorem dX0_setLadder_96 : decode cX0_setLadder 96 = .ok (.aload_n 0, 1) := by decide +kernel
theorem dX0_setLadder_97 : decode cX0_setLadder 97 = .ok (.getfield 21, 3) := by decide +kernel
theorem dX0_setLadder_100 : decode cX0_setLadder 100 = .ok (.iload_n 2, 1) := by decide +kernel
theorem dX0_setLadder_101 : decode cX0_setLadder 101 = .ok (.invokevirtual 117, 3) := by decide +kernel
theorem dX0_setLadder_104 : decode cX0_setLadder 104 = .ok (.iload_n 2, 1) := by decide +kernel
theorem dX0_setLadder_105 : decode cX0_setLadder 105 = .ok (.ireturn, 1) := by decide +kernel
theorem dX4_hold_0 : decode cX4_hold 0 = .ok (.aload_n 0, 1) := by decide +kernel
theorem dX4_hold_1 : decode cX4_hold 1 = .ok (.aload_n 0, 1) := by decide +kernel
theorem dX4_hold_2 : decode cX4_hold 2 = .ok (.getfield 22, 3) := by decide +kernel
theorem dX4_hold_5 : decode cX4_hold 5 = .ok (.iconst 1, 1) := by decide +kernel
theorem dX4_hold_6 : decode cX4_hold 6 = .ok (.iadd, 1) := by decide +kernel
theorem dX4_hold_7 : decode cX4_hold 7 = .ok (.bipush 13, 2) := by decide +kernel
theorem dX4_hold_9 : decode cX4_hold 9 = .ok (.irem, 1) := by decide +kernel
theorem dX4_hold_10 : decode cX4_hold 10 = .ok (.putfield 22, 3) := by decide +kernel
theorem dX4_hold_13 : decode cX4_hold 13 = .ok (.aload_n 0, 1) := by decide +kernel
theorem dX4_hold_14 : decode cX4_hold 14 = .ok (.bipush 12, 2) := by decide +kernel
theorem dX4_hold_16 : decode cX4_hold 16 = .ok (.aload_n 0, 1) := by decide +kernel
theorem dX4_hold_17 : decode cX4_hold 17 = .ok (.getfield 30, 3) := by decide +kernel
theorem dX4_hold_20 : decode cX4_hold 20 = .ok (.iconst 1, 1) := by decide +kernel
theorem dX4_hold_21 : decode cX4_hold 21 = .ok (.iadd, 1) := by decide +kernel
theorem dX4_hold_22 : decode cX4_hold 22 = .ok (.invokestatic 33, 3) := by decide +kernel
theorem dX4_hold_25 : decode cX4_hold 25 = .ok (.putfield 30, 3) := by decide +kernel
theorem dX4_hold_28 : decode cX4_hold 28 = .ok (.return_, 1) := by decide +kernel
theorem dX9_holdIfDone_0 : decode cX9_holdIfDone 0 = .ok (.iload_n 1, 1) := by decide +kernel
theorem dX9_holdIfDone_1 : decode cX9_holdIfDone 1 = .ok (.ifCond .lt 10, 3) := by decide +kernel
theorem dX9_holdIfDone_4 : decode cX9_holdIfDone 4 = .ok (.aload_n 0, 1) := by decide +kernel
theorem dX9_holdIfDone_5 : decode cX9_holdIfDone 5 = .ok (.getfield 43, 3) := by decide +kernel
theorem dX9_holdIfDone_8 : decode cX9_holdIfDone 8 = .ok (.invokevirtual 212, 3) := by decide +kernel
theorem dX9_holdIfDone_11 : decode cX9_holdIfDone 11 = .ok (.iload_n 1, 1) := by decide +kernel
theorem dX9_holdIfDone_12 : decode cX9_holdIfDone 12 = .ok (.ireturn, 1) := by decide +kernel
theorem dX9_move_0 : decode cX9_move 0 = .ok (.aload_n 0, 1) := by decide +kernel
theorem dX9_move_1 : decode cX9_move 1 = .ok (.getfield 43, 3) := by decide +kernel
theorem dX9_move_4 : decode cX9_move 4 = .ok (.aload_n 0, 1) := by decide +kernel
theorem dX9_move_5 : decode cX9_move 5 = .ok (.getfield 39, 3) := by decide +kernel
theorem dX9_move_8 : decode cX9_move 8 = .ok (.invokevirtual 175, 3) := by decide +kernel
theorem dX9_move_11 : decode cX9_move 11 = .ok (.aload_n 0, 1) := by decide +kernel
theorem dX9_move_12 : decode cX9_move 12 = .ok (.aload_n 0, 1) := by decide +kernel
theorem dX9_move_13 : decode cX9_move 13 = .ok (.getfield 27, 3) := by decide +kernel
theorem dX9_move_16 : decode cX9_move 16 = .ok (.iload_n 1, 1) := by decide +kernel
theorem dX9_move_17 : decode cX9_move 17 = .ok (.invokevirtual 179, 3) := by decide +kernel
theorem dX9_move_20 : decode cX9_move 20 = .ok (.invokevirtual 182, 3) := by decide +kernel
theorem dX9_move_23 : decode cX9_move 23 = .ok (.ireturn, 1) := by decide +kernel
theorem dX9_isYesOrNo_0 : decode cX9_isYesOrNo 0 = .ok (.iload_n 0, 1) := by decide +kernel
theorem dX9_isYesOrNo_1 : decode cX9_isYesOrNo 1 = .ok (.ifCond .eq 8, 3) := by decide +kernel
theorem dX9_isYesOrNo_4 : decode cX9_isYesOrNo 4 = .ok (.iload_n 0, 1) := by decide +kernel
theorem dX9_isYesOrNo_5 : decode cX9_isYesOrNo 5 = .ok (.iconst 1, 1) := by decide +kernel
theorem dX9_isYesOrNo_6 : decode cX9_isYesOrNo 6 = .ok (.if_icmp .ne 7, 3) := by decide +kernel
theorem dX9_isYesOrNo_9 : decode cX9_isYesOrNo 9 = .ok (.iconst 1, 1) := by decide +kernel
theorem dX9_isYesOrNo_10 : decode cX9_isYesOrNo 10 = .ok (.goto 4, 3) := by decide +kernel
theorem dX9_isYesOrNo_13 : decode cX9_isYesOrNo 13 = .ok (.iconst 0, 1) := by decide +kernel
theorem dX9_isYesOrNo_14 : decode cX9_isYesOrNo 14 = .ok (.ireturn, 1) := by decide +kernel
theorem dX0_setHelper_0 : decode cX0_setHelper 0 = .ok (.iload_n 1, 1) := by decide +kernel
theorem dX0_setHelper_1 : decode cX0_setHelper 1 = .ok (.invokestatic 121, 3) := by decide +kernel
theorem dX0_setHelper_4 : decode cX0_setHelper 4 = .ok (.ifCond .ne 5, 3) := by decide +kernel
theorem dX0_setHelper_7 : decode cX0_setHelper 7 = .ok (.iconst (-1), 1) := by decide +kernel
theorem dX0_setHelper_8 : decode cX0_setHelper 8 = .ok (.ireturn, 1) := by decide +kernel
theorem dX0_setHelper_9 : decode cX0_setHelper 9 = .ok (.aload_n 0, 1) := by decide +kernel
theorem dX0_setHelper_10 : decode cX0_setHelper 10 = .ok (.getfield 21, 3) := by decide +kernel
theorem dX0_setHelper_13 : decode cX0_setHelper 13 = .ok (.getfield 56, 3) := by decide +kernel
theorem dX0_setHelper_16 : decode cX0_setHelper 16 = .ok (.istore_n 2, 1) := by decide +kernel
theorem dX0_setHelper_17 : decode cX0_setHelper 17 = .ok (.aload_n 0, 1) := by decide +kernel
theorem dX0_setHelper_18 : decode cX0_setHelper 18 = .ok (.getfield 21, 3) := by decide +kernel
theorem dX0_setHelper_21 : decode cX0_setHelper 21 = .ok (.iload_n 1, 1) := by decide +kernel
theorem dX0_setHelper_22 : decode cX0_setHelper 22 = .ok (.putfield 56, 3) := by decide +kernel
theorem dX0_setHelper_25 : decode cX0_setHelper 25 = .ok (.iload_n 2, 1) := by decide +kernel
theorem dX0_setHelper_26 : decode cX0_setHelper 26 = .ok (.ireturn, 1) := by decide +kernel
theorem dX9_foot_0 : decode cX9_foot 0 = .ok (.aload_n 0, 1) := by decide +kernel
theorem dX9_foot_1 : decode cX9_foot 1 = .ok (.getfield 43, 3) := by decide +kernel
theorem dX9_foot_4 : decode cX9_foot 4 = .ok (.aload_n 0, 1) := by decide +kernel
theorem dX9_foot_5 : decode cX9_foot 5 = .ok (.getfield 39, 3) := by decide +kernel
theorem dX9_foot_8 : decode cX9_foot 8 = .ok (.invokevirtual 175, 3) := by decide +kernel
theorem dX9_foot_11 : decode cX9_foot 11 = .ok (.aload_n 0, 1) := by decide +kernel
theorem dX9_foot_12 : decode cX9_foot 12 = .ok (.aload_n 0, 1) := by decide +kernel
theorem dX9_foot_13 : decode cX9_foot 13 = .ok (.getfield 27, 3) := by decide +kernel
theorem dX9_foot_16 : decode cX9_foot 16 = .ok (.iload_n 1, 1) := by decide +kernel
theorem dX9_foot_17 : decode cX9_foot 17 = .ok (.invokevirtual 185, 3) := by decide +kernel
theorem dX9_foot_20 : decode cX9_foot 20 = .ok (.invokevirtual 182, 3) := by decide +kernel
theorem dX9_foot_23 : decode cX9_foot 23 = .ok (.ireturn, 1) := by decide +kernel
theorem dX3_reach_0 : decode cX3_reach 0 = .ok (.aload_n 0, 1) := by decide +kernel
theorem dX3_reach_1 : decode cX3_reach 1 = .ok (.getfield 30, 3) := by decide +kernel
theorem dX3_reach_4 : decode cX3_reach 4 = .ok (.iconst 0, 1) := by decide +kernel
theorem dX3_reach_5 : decode cX3_reach 5 = .ok (.iaload, 1) := by decide +kernel
theorem dX3_reach_6 : decode cX3_reach 6 = .ok (.iload_n 1, 1) := by decide +kernel
theorem dX3_reach_7 : decode cX3_reach 7 = .ok (.aload_n 0, 1) := by decide +kernel
theorem dX3_reach_8 : decode cX3_reach 8 = .ok (.getfield 30, 3) := by decide +kernel
theorem dX3_reach_11 : decode cX3_reach 11 = .ok (.iconst 1, 1) := by decide +kernel
theorem dX3_reach_12 : decode cX3_reach 12 = .ok (.iaload, 1) := by decide +kernel
theorem dX3_reach_13 : decode cX3_reach 13 = .ok (.imul, 1) := by decide +kernel
theorem dX3_reach_14 : decode cX3_reach 14 = .ok (.iadd, 1) := by decide +kernel
theorem dX3_reach_15 : decode cX3_reach 15 = .ok (.iload_n 2, 1) := by decide +kernel
theorem dX3_reach_16 : decode cX3_reach 16 = .ok (.aload_n 0, 1) := by decide +kernel
theorem dX3_reach_17 : decode cX3_reach 17 = .ok (.getfield 30, 3) := by decide +kernel
theorem dX3_reach_20 : decode cX3_reach 20 = .ok (.iconst 2, 1) := by decide +kernel
theorem dX3_reach_21 : decode cX3_reach 21 = .ok (.iaload, 1) := by decide +kernel
theorem dX3_reach_22 : decode cX3_reach 22 = .ok (.imul, 1) := by decide +kernel
theorem dX3_reach_23 : decode cX3_reach 23 = .ok (.iadd, 1) := by decide +kernel
theorem dX3_reach_24 : decode cX3_reach 24 = .ok (.ireturn, 1) := by decide +kernel
theorem dX3_aside_0 : decode cX3_aside 0 = .ok (.aload_n 0, 1) := by decide +kernel
theorem dX3_aside_1 : decode cX3_aside 1 = .ok (.getfield 9, 3) := by decide +kernel
theorem dX3_aside_4 : decode cX3_aside 4 = .ok (.iload_n 1, 1) := by decide +kernel
theorem dX3_aside_5 : decode cX3_aside 5 = .ok (.iaload, 1) := by decide +kernel
theorem dX3_aside_6 : decode cX3_aside 6 = .ok (.aload_n 0, 1) := by decide +kernel
theorem dX3_aside_7 : decode cX3_aside 7 = .ok (.getfield 24, 3) := by decide +kernel
theorem dX3_aside_10 : decode cX3_aside 10 = .ok (.iload_n 2, 1) := by decide +kernel
theorem dX3_aside_11 : decode cX3_aside 11 = .ok (.iaload, 1) := by decide +kernel
theorem dX3_aside_12 : decode cX3_aside 12 = .ok (.if_icmp .le 19, 3) := by decide +kernel
theorem dX3_aside_15 : decode cX3_aside 15 = .ok (.aload_n 0, 1) := by decide +kernel
theorem dX3_aside_16 : decode cX3_aside 16 = .ok (.getfield 9, 3) := by decide +kernel
theorem dX3_aside_19 : decode cX3_aside 19 = .ok (.iload_n 1, 1) := by decide +kernel
theorem dX3_aside_20 : decode cX3_aside 20 = .ok (.iaload, 1) := by decide +kernel
theorem dX3_aside_21 : decode cX3_aside 21 = .ok (.aload_n 0, 1) := by decide +kernel
theorem dX3_aside_22 : decode cX3_aside 22 = .ok (.getfield 24, 3) := by decide +kernel
theorem dX3_aside_25 : decode cX3_aside 25 = .ok (.iload_n 2, 1) := by decide +kernel
theorem dX3_aside_26 : decode cX3_aside 26 = .ok (.iaload, 1) := by decide +kernel
theorem dX3_aside_27 : decode cX3_aside 27 = .ok (.isub, 1) := by decide +kernel
theorem dX3_aside_28 : decode cX3_aside 28 = .ok (.goto 16, 3) := by decide +kernel
theorem dX3_aside_31 : decode cX3_aside 31 = .ok (.aload_n 0, 1) := by decide +kernel
theorem dX3_aside_32 : decode cX3_aside 32 = .ok (.getfield 24, 3) := by decide +kernel
theorem dX3_aside_35 : decode cX3_aside 35 = .ok (.iload_n 2, 1) := by decide +kernel
theorem dX3_aside_36 : decode cX3_aside 36 = .ok (.iaload, 1) := by decide +kernel
theorem dX3_aside_37 : decode cX3_aside 37 = .ok (.aload_n 0, 1) := by decide +kernel
theorem dX3_aside_38 : decode cX3_aside 38 = .ok (.getfield 9, 3) := by decide +kernel
theorem dX3_aside_41 : decode cX3_aside 41 = .ok (.iload_n 1, 1) := by decide +kernel
theorem dX3_aside_42 : decode cX3_aside 42 = .ok (.iaload, 1) := by decide +kernel
theorem dX3_aside_43 : decode cX3_aside 43 = .ok (.isub, 1) := by decide +kernel
theorem dX3_aside_44 : decode cX3_aside 44 = .ok (.ireturn, 1) := by decide +kernel
theorem dX3_above_0 : decode cX3_above 0 = .ok (.aload_n 0, 1) := by decide +kernel
theorem dX3_above_1 : decode cX3_above 1 = .ok (.getfield 15, 3) := by decide +kernel
theorem dX3_above_4 : decode cX3_above 4 = .ok (.iload_n 1, 1) := by decide +kernel
theorem dX3_above_5 : decode cX3_above 5 = .ok (.iaload, 1) := by decide +kernel
theorem dX3_above_6 : decode cX3_above 6 = .ok (.aload_n 0, 1) := by decide +kernel
theorem dX3_above_7 : decode cX3_above 7 = .ok (.getfield 27, 3) := by decide +kernel
theorem dX3_above_10 : decode cX3_above 10 = .ok (.iload_n 2, 1) := by decide +kernel
theorem dX3_above_11 : decode cX3_above 11 = .ok (.iaload, 1) := by decide +kernel
theorem dX3_above_12 : decode cX3_above 12 = .ok (.if_icmp .le 19, 3) := by decide +kernel
theorem dX3_above_15 : decode cX3_above 15 = .ok (.aload_n 0, 1) := by decide +kernel
theorem dX3_above_16 : decode cX3_above 16 = .ok (.getfield 15, 3) := by decide +kernel
theorem dX3_above_19 : decode cX3_above 19 = .ok (.iload_n 1, 1) := by decide +kernel
theorem dX3_above_20 : decode cX3_above 20 = .ok (.iaload, 1) := by decide +kernel
theorem dX3_above_21 : decode cX3_above 21 = .ok (.aload_n 0, 1) := by decide +kernel
theorem dX3_above_22 : decode cX3_above 22 = .ok (.getfield 27, 3) := by decide +kernel
theorem dX3_above_25 : decode cX3_above 25 = .ok (.iload_n 2, 1) := by decide +kernel
theorem dX3_above_26 : decode cX3_above 26 = .ok (.iaload, 1) := by decide +kernel
theorem dX3_above_27 : decode cX3_above 27 = .ok (.isub, 1) := by decide +kernel
theorem dX3_above_28 : decode cX3_above 28 = .ok (.goto 4, 3) := by decide +kernel
theorem dX3_above_31 : decode cX3_above 31 = .ok (.iconst 0, 1) := by decide +kernel
theorem dX3_above_32 : decode cX3_above 32 = .ok (.ireturn, 1) := by decide +kernel
theorem dX3_isWithin_0 : decode cX3_isWithin 0 = .ok (.aload_n 0, 1) := by decide +kernel
theorem dX3_isWithin_1 : decode cX3_isWithin 1 = .ok (.iload_n 1, 1) := by decide +kernel
theorem dX3_isWithin_2 : decode cX3_isWithin 2 = .ok (.iload_n 2, 1) := by decide +kernel
theorem dX3_isWithin_3 : decode cX3_isWithin 3 = .ok (.invokevirtual 95, 3) := by decide +kernel
theorem dX3_isWithin_6 : decode cX3_isWithin 6 = .ok (.istore 4, 2) := by decide +kernel
theorem dX3_isWithin_8 : decode cX3_isWithin 8 = .ok (.aload_n 0, 1) := by decide +kernel
theorem dX3_isWithin_9 : decode cX3_isWithin 9 = .ok (.iload_n 1, 1) := by decide +kernel
theorem dX3_isWithin_10 : decode cX3_isWithin 10 = .ok (.iload_n 2, 1) := by decide +kernel
theorem dX3_isWithin_11 : decode cX3_isWithin 11 = .ok (.invokevirtual 98, 3) := by decide +kernel
theorem dX3_isWithin_14 : decode cX3_isWithin 14 = .ok (.istore 5, 2) := by decide +kernel
theorem dX3_isWithin_16 : decode cX3_isWithin 16 = .ok (.iload 4, 2) := by decide +kernel
theorem dX3_isWithin_18 : decode cX3_isWithin 18 = .ok (.iload 4, 2) := by decide +kernel
theorem dX3_isWithin_20 : decode cX3_isWithin 20 = .ok (.imul, 1) := by decide +kernel
theorem dX3_isWithin_21 : decode cX3_isWithin 21 = .ok (.iload 5, 2) := by decide +kernel
theorem dX3_isWithin_23 : decode cX3_isWithin 23 = .ok (.iload 5, 2) := by decide +kernel
theorem dX3_isWithin_25 : decode cX3_isWithin 25 = .ok (.imul, 1) := by decide +kernel
theorem dX3_isWithin_26 : decode cX3_isWithin 26 = .ok (.iadd, 1) := by decide +kernel
theorem dX3_isWithin_27 : decode cX3_isWithin 27 = .ok (.iload_n 3, 1) := by decide +kernel
theorem dX3_isWithin_28 : decode cX3_isWithin 28 = .ok (.iload_n 3, 1) := by decide +kernel
theorem dX3_isWithin_29 : decode cX3_isWithin 29 = .ok (.imul, 1) := by decide +kernel
theorem dX3_isWithin_30 : decode cX3_isWithin 30 = .ok (.if_icmp .gt 7, 3) := by decide +kernel
theorem dX3_isWithin_33 : decode cX3_isWithin 33 = .ok (.iconst 1, 1) := by decide +kernel
theorem dX3_isWithin_34 : decode cX3_isWithin 34 = .ok (.goto 4, 3) := by decide +kernel
theorem dX3_isWithin_37 : decode cX3_isWithin 37 = .ok (.iconst 0, 1) := by decide +kernel
theorem dX3_isWithin_38 : decode cX3_isWithin 38 = .ok (.ireturn, 1) := by decide +kernel
theorem dJ6_bitCount_0f7a4_0 : decode cJ6_bitCount_0f7a4 0 = .ok (.iload_n 0, 1) := by decide +kernel
theorem dJ6_bitCount_0f7a4_1 : decode cJ6_bitCount_0f7a4 1 = .ok (.iload_n 0, 1) := by decide +kernel
theorem dJ6_bitCount_0f7a4_2 : decode cJ6_bitCount_0f7a4 2 = .ok (.iconst 1, 1) := by decide +kernel
theorem dJ6_bitCount_0f7a4_3 : decode cJ6_bitCount_0f7a4 3 = .ok (.iushr, 1) := by decide +kernel
theorem dJ6_bitCount_0f7a4_4 : decode cJ6_bitCount_0f7a4 4 = .ok (.ldc_w 265, 3) := by decide +kernel
theorem dJ6_bitCount_0f7a4_7 : decode cJ6_bitCount_0f7a4 7 = .ok (.iand, 1) := by decide +kernel
theorem dJ6_bitCount_0f7a4_8 : decode cJ6_bitCount_0f7a4 8 = .ok (.isub, 1) := by decide +kernel
theorem dJ6_bitCount_0f7a4_9 : decode cJ6_bitCount_0f7a4 9 = .ok (.istore_n 0, 1) := by decide +kernel
theorem dJ6_bitCount_0f7a4_10 : decode cJ6_bitCount_0f7a4 10 = .ok (.iload_n 0, 1) := by decide +kernel
theorem dJ6_bitCount_0f7a4_11 : decode cJ6_bitCount_0f7a4 11 = .ok (.ldc_w 266, 3) := by decide +kernel
theorem dJ6_bitCount_0f7a4_14 : decode cJ6_bitCount_0f7a4 14 = .ok (.iand, 1) := by decide +kernel
theorem dJ6_bitCount_0f7a4_15 : decode cJ6_bitCount_0f7a4 15 = .ok (.iload_n 0, 1) := by decide +kernel
theorem dJ6_bitCount_0f7a4_16 : decode cJ6_bitCount_0f7a4 16 = .ok (.iconst 2, 1) := by decide +kernel
theorem dJ6_bitCount_0f7a4_17 : decode cJ6_bitCount_0f7a4 17 = .ok (.iushr, 1) := by decide +kernel
theorem dJ6_bitCount_0f7a4_18 : decode cJ6_bitCount_0f7a4 18 = .ok (.ldc_w 266, 3) := by decide +kernel
theorem dJ6_bitCount_0f7a4_21 : decode cJ6_bitCount_0f7a4 21 = .ok (.iand, 1) := by decide +kernel
theorem dJ6_bitCount_0f7a4_22 : decode cJ6_bitCount_0f7a4 22 = .ok (.iadd, 1) := by decide +kernel
theorem dJ6_bitCount_0f7a4_23 : decode cJ6_bitCount_0f7a4 23 = .ok (.istore_n 0, 1) := by decide +kernel
theorem dJ6_bitCount_0f7a4_24 : decode cJ6_bitCount_0f7a4 24 = .ok (.iload_n 0, 1) := by decide +kernel
theorem dJ6_bitCount_0f7a4_25 : decode cJ6_bitCount_0f7a4 25 = .ok (.iload_n 0, 1) := by decide +kernel
theorem dJ6_bitCount_0f7a4_26 : decode cJ6_bitCount_0f7a4 26 = .ok (.iconst 4, 1) := by decide +kernel
theorem dJ6_bitCount_0f7a4_27 : decode cJ6_bitCount_0f7a4 27 = .ok (.iushr, 1) := by decide +kernel
theorem dJ6_bitCount_0f7a4_28 : decode cJ6_bitCount_0f7a4 28 = .ok (.iadd, 1) := by decide +kernel
theorem dJ6_bitCount_0f7a4_29 : decode cJ6_bitCount_0f7a4 29 = .ok (.ldc_w 267, 3) := by decide +kernel
theorem dJ6_bitCount_0f7a4_32 : decode cJ6_bitCount_0f7a4 32 = .ok (.iand, 1) := by decide +kernel
theorem dJ6_bitCount_0f7a4_33 : decode cJ6_bitCount_0f7a4 33 = .ok (.istore_n 0, 1) := by decide +kernel
theorem dJ6_bitCount_0f7a4_34 : decode cJ6_bitCount_0f7a4 34 = .ok (.iload_n 0, 1) := by decide +kernel
theorem dJ6_bitCount_0f7a4_35 : decode cJ6_bitCount_0f7a4 35 = .ok (.iload_n 0, 1) := by decide +kernel
theorem dJ6_bitCount_0f7a4_36 : decode cJ6_bitCount_0f7a4 36 = .ok (.bipush 8, 2) := by decide +kernel
theorem dJ6_bitCount_0f7a4_38 : decode cJ6_bitCount_0f7a4 38 = .ok (.iushr, 1) := by decide +kernel
theorem dJ6_bitCount_0f7a4_39 : decode cJ6_bitCount_0f7a4 39 = .ok (.iadd, 1) := by decide +kernel
theorem dJ6_bitCount_0f7a4_40 : decode cJ6_bitCount_0f7a4 40 = .ok (.istore_n 0, 1) := by decide +kernel
theorem dJ6_bitCount_0f7a4_41 : decode cJ6_bitCount_0f7a4 41 = .ok (.iload_n 0, 1) := by decide +kernel
theorem dJ6_bitCount_0f7a4_42 : decode cJ6_bitCount_0f7a4 42 = .ok (.iload_n 0, 1) := by decide +kernel
theorem dJ6_bitCount_0f7a4_43 : decode cJ6_bitCount_0f7a4 43 = .ok (.bipush 16, 2) := by decide +kernel
theorem dJ6_bitCount_0f7a4_45 : decode cJ6_bitCount_0f7a4 45 = .ok (.iushr, 1) := by decide +kernel
theorem dJ6_bitCount_0f7a4_46 : decode cJ6_bitCount_0f7a4 46 = .ok (.iadd, 1) := by decide +kernel
theorem dJ6_bitCount_0f7a4_47 : decode cJ6_bitCount_0f7a4 47 = .ok (.istore_n 0, 1) := by decide +kernel
theorem dJ6_bitCount_0f7a4_48 : decode cJ6_bitCount_0f7a4 48 = .ok (.iload_n 0, 1) := by decide +kernel
theorem dJ6_bitCount_0f7a4_49 : decode cJ6_bitCount_0f7a4 49 = .ok (.bipush 63, 2) := by decide +kernel
theorem dJ6_bitCount_0f7a4_51 : decode cJ6_bitCount_0f7a4 51 = .ok (.iand, 1) := by decide +kernel
theorem dJ6_bitCount_0f7a4_52 : decode cJ6_bitCount_0f7a4 52 = .ok (.ireturn, 1) := by decide +kernel
theorem dX3_worthOf_0 : decode cX3_worthOf 0 = .ok (.iconst 0, 1) := by decide +kernel
theorem dX3_worthOf_1 : decode cX3_worthOf 1 = .ok (.istore_n 3, 1) := by decide +kernel
theorem dX3_worthOf_2 : decode cX3_worthOf 2 = .ok (.iconst 0, 1) := by decide +kernel
theorem dX3_worthOf_3 : decode cX3_worthOf 3 = .ok (.istore 4, 2) := by decide +kernel
theorem dX3_worthOf_5 : decode cX3_worthOf 5 = .ok (.iload 4, 2) := by decide +kernel
theorem dX3_worthOf_7 : decode cX3_worthOf 7 = .ok (.aload_n 0, 1) := by decide +kernel
theorem dX3_worthOf_8 : decode cX3_worthOf 8 = .ok (.getfield 33, 3) := by decide +kernel
theorem dX3_worthOf_11 : decode cX3_worthOf 11 = .ok (.if_icmp .ge 49, 3) := by decide +kernel
theorem dX3_worthOf_14 : decode cX3_worthOf 14 = .ok (.iload_n 1, 1) := by decide +kernel
theorem dX3_worthOf_15 : decode cX3_worthOf 15 = .ok (.iload 4, 2) := by decide +kernel
theorem dX3_worthOf_17 : decode cX3_worthOf 17 = .ok (.ishr, 1) := by decide +kernel
theorem dX3_worthOf_18 : decode cX3_worthOf 18 = .ok (.iconst 1, 1) := by decide +kernel
theorem dX3_worthOf_19 : decode cX3_worthOf 19 = .ok (.iand, 1) := by decide +kernel
theorem dX3_worthOf_20 : decode cX3_worthOf 20 = .ok (.ifCond .eq 34, 3) := by decide +kernel
theorem dX3_worthOf_23 : decode cX3_worthOf 23 = .ok (.iload_n 3, 1) := by decide +kernel
theorem dX3_worthOf_24 : decode cX3_worthOf 24 = .ok (.iload_n 2, 1) := by decide +kernel
theorem dX3_worthOf_25 : decode cX3_worthOf 25 = .ok (.iload 4, 2) := by decide +kernel
theorem dX3_worthOf_27 : decode cX3_worthOf 27 = .ok (.ishr, 1) := by decide +kernel
theorem dX3_worthOf_28 : decode cX3_worthOf 28 = .ok (.iconst 1, 1) := by decide +kernel
theorem dX3_worthOf_29 : decode cX3_worthOf 29 = .ok (.iand, 1) := by decide +kernel
theorem dX3_worthOf_30 : decode cX3_worthOf 30 = .ok (.ifCond .eq 15, 3) := by decide +kernel
theorem dX3_worthOf_33 : decode cX3_worthOf 33 = .ok (.aload_n 0, 1) := by decide +kernel
theorem dX3_worthOf_34 : decode cX3_worthOf 34 = .ok (.getfield 18, 3) := by decide +kernel
theorem dX3_worthOf_37 : decode cX3_worthOf 37 = .ok (.iload 4, 2) := by decide +kernel
theorem dX3_worthOf_39 : decode cX3_worthOf 39 = .ok (.iaload, 1) := by decide +kernel
theorem dX3_worthOf_40 : decode cX3_worthOf 40 = .ok (.iconst 2, 1) := by decide +kernel
theorem dX3_worthOf_41 : decode cX3_worthOf 41 = .ok (.idiv, 1) := by decide +kernel
theorem dX3_worthOf_42 : decode cX3_worthOf 42 = .ok (.goto 10, 3) := by decide +kernel
theorem dX3_worthOf_45 : decode cX3_worthOf 45 = .ok (.aload_n 0, 1) := by decide +kernel
theorem dX3_worthOf_46 : decode cX3_worthOf 46 = .ok (.getfield 18, 3) := by decide +kernel
theorem dX3_worthOf_49 : decode cX3_worthOf 49 = .ok (.iload 4, 2) := by decide +kernel
theorem dX3_worthOf_51 : decode cX3_worthOf 51 = .ok (.iaload, 1) := by decide +kernel
theorem dX3_worthOf_52 : decode cX3_worthOf 52 = .ok (.iadd, 1) := by decide +kernel
theorem dX3_worthOf_53 : decode cX3_worthOf 53 = .ok (.istore_n 3, 1) := by decide +kernel
theorem dX3_worthOf_54 : decode cX3_worthOf 54 = .ok (.iinc 4 1, 3) := by decide +kernel
theorem dX3_worthOf_57 : decode cX3_worthOf 57 = .ok (.goto (-52), 3) := by decide +kernel
theorem dX3_worthOf_60 : decode cX3_worthOf 60 = .ok (.iload_n 3, 1) := by decide +kernel
theorem dX3_worthOf_61 : decode cX3_worthOf 61 = .ok (.ireturn, 1) := by decide +kernel
theorem dX0_worthOf_0 : decode cX0_worthOf 0 = .ok (.aload_n 0, 1) := by decide +kernel
theorem dX0_worthOf_1 : decode cX0_worthOf 1 = .ok (.getfield 12, 3) := by decide +kernel
theorem dX0_worthOf_4 : decode cX0_worthOf 4 = .ok (.iload_n 1, 1) := by decide +kernel
theorem dX0_worthOf_5 : decode cX0_worthOf 5 = .ok (.aload_n 0, 1) := by decide +kernel
theorem dX0_worthOf_6 : decode cX0_worthOf 6 = .ok (.getfield 21, 3) := by decide +kernel
theorem dX0_worthOf_9 : decode cX0_worthOf 9 = .ok (.getfield 46, 3) := by decide +kernel
theorem dX0_worthOf_12 : decode cX0_worthOf 12 = .ok (.invokevirtual 49, 3) := by decide +kernel
theorem dX0_worthOf_15 : decode cX0_worthOf 15 = .ok (.ireturn, 1) := by decide +kernel
theorem dX7_meant_0 : decode cX7_meant 0 = .ok (.iload_n 1, 1) := by decide +kernel
theorem dX7_meant_1 : decode cX7_meant 1 = .ok (.sipush 1000, 3) := by decide +kernel
theorem dX7_meant_4 : decode cX7_meant 4 = .ok (.isub, 1) := by decide +kernel
theorem dX7_meant_5 : decode cX7_meant 5 = .ok (.istore_n 2, 1) := by decide +kernel
theorem dX7_meant_6 : decode cX7_meant 6 = .ok (.iload_n 2, 1) := by decide +kernel
theorem dX7_meant_7 : decode cX7_meant 7 = .ok (.ifCond .lt 21, 3) := by decide +kernel
theorem dX7_meant_10 : decode cX7_meant 10 = .ok (.iload_n 2, 1) := by decide +kernel
theorem dX7_meant_11 : decode cX7_meant 11 = .ok (.aload_n 0, 1) := by decide +kernel
theorem dX7_meant_12 : decode cX7_meant 12 = .ok (.getfield 19, 3) := by decide +kernel
theorem dX7_meant_15 : decode cX7_meant 15 = .ok (.arraylength, 1) := by decide +kernel
theorem dX7_meant_16 : decode cX7_meant 16 = .ok (.if_icmp .ge 12, 3) := by decide +kernel
theorem dX7_meant_19 : decode cX7_meant 19 = .ok (.aload_n 0, 1) := by decide +kernel
theorem dX7_meant_20 : decode cX7_meant 20 = .ok (.getfield 19, 3) := by decide +kernel
theorem dX7_meant_23 : decode cX7_meant 23 = .ok (.iload_n 2, 1) := by decide +kernel
theorem dX7_meant_24 : decode cX7_meant 24 = .ok (.iaload, 1) := by decide +kernel
theorem dX7_meant_25 : decode cX7_meant 25 = .ok (.goto 4, 3) := by decide +kernel
theorem dX7_meant_28 : decode cX7_meant 28 = .ok (.iload_n 1, 1) := by decide +kernel
theorem dX7_meant_29 : decode cX7_meant 29 = .ok (.ireturn, 1) := by decide +kernel
theorem dX7_join_0 : decode cX7_join 0 = .ok (.iload_n 0, 1) := by decide +kernel
theorem dX7_join_1 : decode cX7_join 1 = .ok (.lookupswitch 104 #[(42, 100), (43, 92), (45, 96), (60, 59), (61, 81), (62, 70)], 59) := by decide +kernel
theorem dX7_join_60 : decode cX7_join 60 = .ok (.iload_n 1, 1) := by decide +kernel
theorem dX7_join_61 : decode cX7_join 61 = .ok (.iload_n 2, 1) := by decide +kernel
theorem dX7_join_62 : decode cX7_join 62 = .ok (.if_icmp .ge 7, 3) := by decide +kernel
theorem dX7_join_65 : decode cX7_join 65 = .ok (.iconst 1, 1) := by decide +kernel
theorem dX7_join_66 : decode cX7_join 66 = .ok (.goto 4, 3) := by decide +kernel
theorem dX7_join_69 : decode cX7_join 69 = .ok (.iconst 0, 1) := by decide +kernel
theorem dX7_join_70 : decode cX7_join 70 = .ok (.ireturn, 1) := by decide +kernel
theorem dX7_join_71 : decode cX7_join 71 = .ok (.iload_n 1, 1) := by decide +kernel
theorem dX7_join_72 : decode cX7_join 72 = .ok (.iload_n 2, 1) := by decide +kernel
theorem dX7_join_73 : decode cX7_join 73 = .ok (.if_icmp .le 7, 3) := by decide +kernel
theorem dX7_join_76 : decode cX7_join 76 = .ok (.iconst 1, 1) := by decide +kernel
theorem dX7_join_77 : decode cX7_join 77 = .ok (.goto 4, 3) := by decide +kernel
theorem dX7_join_80 : decode cX7_join 80 = .ok (.iconst 0, 1) := by decide +kernel
theorem dX7_join_81 : decode cX7_join 81 = .ok (.ireturn, 1) := by decide +kernel
theorem dX7_join_82 : decode cX7_join 82 = .ok (.iload_n 1, 1) := by decide +kernel
theorem dX7_join_83 : decode cX7_join 83 = .ok (.iload_n 2, 1) := by decide +kernel
theorem dX7_join_84 : decode cX7_join 84 = .ok (.if_icmp .ne 7, 3) := by decide +kernel
theorem dX7_join_87 : decode cX7_join 87 = .ok (.iconst 1, 1) := by decide +kernel
theorem dX7_join_88 : decode cX7_join 88 = .ok (.goto 4, 3) := by decide +kernel
theorem dX7_join_91 : decode cX7_join 91 = .ok (.iconst 0, 1) := by decide +kernel
theorem dX7_join_92 : decode cX7_join 92 = .ok (.ireturn, 1) := by decide +kernel
theorem dX7_join_93 : decode cX7_join 93 = .ok (.iload_n 1, 1) := by decide +kernel
theorem dX7_join_94 : decode cX7_join 94 = .ok (.iload_n 2, 1) := by decide +kernel
theorem dX7_join_95 : decode cX7_join 95 = .ok (.iadd, 1) := by decide +kernel
theorem dX7_join_96 : decode cX7_join 96 = .ok (.ireturn, 1) := by decide +kernel
theorem dX7_join_97 : decode cX7_join 97 = .ok (.iload_n 1, 1) := by decide +kernel
theorem dX7_join_98 : decode cX7_join 98 = .ok (.iload_n 2, 1) := by decide +kernel
theorem dX7_join_99 : decode cX7_join 99 = .ok (.isub, 1) := by decide +kernel
theorem dX7_join_100 : decode cX7_join 100 = .ok (.ireturn, 1) := by decide +kernel
theorem dX7_join_101 : decode cX7_join 101 = .ok (.iload_n 1, 1) := by decide +kernel
theorem dX7_join_102 : decode cX7_join 102 = .ok (.iload_n 2, 1) := by decide +kernel
theorem dX7_join_103 : decode cX7_join 103 = .ok (.imul, 1) := by decide +kernel
theorem dX7_join_104 : decode cX7_join 104 = .ok (.ireturn, 1) := by decide +kernel
theorem dX7_join_105 : decode cX7_join 105 = .ok (.iload_n 2, 1) := by decide +kernel
theorem dX7_join_106 : decode cX7_join 106 = .ok (.ifCond .ne 7, 3) := by decide +kernel
theorem dX7_join_109 : decode cX7_join 109 = .ok (.iconst 0, 1) := by decide +kernel
theorem dX7_join_110 : decode cX7_join 110 = .ok (.goto 6, 3) := by decide +kernel
theorem dX7_join_113 : decode cX7_join 113 = .ok (.iload_n 1, 1) := by decide +kernel
theorem dX7_join_114 : decode cX7_join 114 = .ok (.iload_n 2, 1) := by decide +kernel
theorem dX7_join_115 : decode cX7_join 115 = .ok (.idiv, 1) := by decide +kernel
theorem dX7_join_116 : decode cX7_join 116 = .ok (.ireturn, 1) := by decide +kernel
theorem dX7_reckon_0 : decode cX7_reckon 0 = .ok (.iconst 0, 1) := by decide +kernel
theorem dX7_reckon_1 : decode cX7_reckon 1 = .ok (.istore_n 1, 1) := by decide +kernel
theorem dX7_reckon_2 : decode cX7_reckon 2 = .ok (.iconst 0, 1) := by decide +kernel
theorem dX7_reckon_3 : decode cX7_reckon 3 = .ok (.istore_n 2, 1) := by decide +kernel
theorem dX7_reckon_4 : decode cX7_reckon 4 = .ok (.iload_n 2, 1) := by decide +kernel
theorem dX7_reckon_5 : decode cX7_reckon 5 = .ok (.aload_n 0, 1) := by decide +kernel
theorem dX7_reckon_6 : decode cX7_reckon 6 = .ok (.getfield 35, 3) := by decide +kernel
theorem dX7_reckon_9 : decode cX7_reckon 9 = .ok (.if_icmp .ge 127, 3) := by decide +kernel
theorem dX7_reckon_12 : decode cX7_reckon 12 = .ok (.iload_n 2, 1) := by decide +kernel
theorem dX7_reckon_13 : decode cX7_reckon 13 = .ok (.aload_n 0, 1) := by decide +kernel
theorem dX7_reckon_14 : decode cX7_reckon 14 = .ok (.getfield 29, 3) := by decide +kernel
theorem dX7_reckon_17 : decode cX7_reckon 17 = .ok (.arraylength, 1) := by decide +kernel
theorem dX7_reckon_18 : decode cX7_reckon 18 = .ok (.if_icmp .ge 118, 3) := by decide +kernel
theorem dX7_reckon_21 : decode cX7_reckon 21 = .ok (.aload_n 0, 1) := by decide +kernel
theorem dX7_reckon_22 : decode cX7_reckon 22 = .ok (.getfield 29, 3) := by decide +kernel
theorem dX7_reckon_25 : decode cX7_reckon 25 = .ok (.iload_n 2, 1) := by decide +kernel
theorem dX7_reckon_26 : decode cX7_reckon 26 = .ok (.iaload, 1) := by decide +kernel
theorem dX7_reckon_27 : decode cX7_reckon 27 = .ok (.istore_n 3, 1) := by decide +kernel
theorem dX7_reckon_28 : decode cX7_reckon 28 = .ok (.iload_n 3, 1) := by decide +kernel
theorem dX7_reckon_29 : decode cX7_reckon 29 = .ok (.sipush 2000, 3) := by decide +kernel
theorem dX7_reckon_32 : decode cX7_reckon 32 = .ok (.if_icmp .ge 29, 3) := by decide +kernel
theorem dX7_reckon_35 : decode cX7_reckon 35 = .ok (.iload_n 1, 1) := by decide +kernel
theorem dX7_reckon_36 : decode cX7_reckon 36 = .ok (.aload_n 0, 1) := by decide +kernel
theorem dX7_reckon_37 : decode cX7_reckon 37 = .ok (.getfield 26, 3) := by decide +kernel
theorem dX7_reckon_40 : decode cX7_reckon 40 = .ok (.arraylength, 1) := by decide +kernel
theorem dX7_reckon_41 : decode cX7_reckon 41 = .ok (.if_icmp .ge 89, 3) := by decide +kernel
theorem dX7_reckon_44 : decode cX7_reckon 44 = .ok (.aload_n 0, 1) := by decide +kernel
theorem dX7_reckon_45 : decode cX7_reckon 45 = .ok (.getfield 26, 3) := by decide +kernel
theorem dX7_reckon_48 : decode cX7_reckon 48 = .ok (.iload_n 1, 1) := by decide +kernel
theorem dX7_reckon_49 : decode cX7_reckon 49 = .ok (.aload_n 0, 1) := by decide +kernel
theorem dX7_reckon_50 : decode cX7_reckon 50 = .ok (.iload_n 3, 1) := by decide +kernel
theorem dX7_reckon_51 : decode cX7_reckon 51 = .ok (.invokevirtual 102, 3) := by decide +kernel
theorem dX7_reckon_54 : decode cX7_reckon 54 = .ok (.iastore, 1) := by decide +kernel
theorem dX7_reckon_55 : decode cX7_reckon 55 = .ok (.iinc 1 1, 3) := by decide +kernel
theorem dX7_reckon_58 : decode cX7_reckon 58 = .ok (.goto 72, 3) := by decide +kernel
theorem dX7_reckon_61 : decode cX7_reckon 61 = .ok (.iload_n 3, 1) := by decide +kernel
theorem dX7_reckon_62 : decode cX7_reckon 62 = .ok (.sipush 2256, 3) := by decide +kernel
theorem dX7_reckon_65 : decode cX7_reckon 65 = .ok (.if_icmp .ne 27, 3) := by decide +kernel
theorem dX7_reckon_68 : decode cX7_reckon 68 = .ok (.iload_n 1, 1) := by decide +kernel
theorem dX7_reckon_69 : decode cX7_reckon 69 = .ok (.ifCond .le 61, 3) := by decide +kernel
theorem dX7_reckon_72 : decode cX7_reckon 72 = .ok (.aload_n 0, 1) := by decide +kernel
