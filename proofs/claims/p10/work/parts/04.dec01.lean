theorem dX3_readFruit_7 : decode cX3_readFruit 7 = .ok (.getfield 9, 3) := by decide +kernel
theorem dX3_readFruit_10 : decode cX3_readFruit 10 = .ok (.aload_n 0, 1) := by decide +kernel
theorem dX3_readFruit_11 : decode cX3_readFruit 11 = .ok (.getfield 15, 3) := by decide +kernel
theorem dX3_readFruit_14 : decode cX3_readFruit 14 = .ok (.iload_n 2, 1) := by decide +kernel
theorem dX3_readFruit_15 : decode cX3_readFruit 15 = .ok (.invokestatic 72, 3) := by decide +kernel
theorem dX3_readFruit_18 : decode cX3_readFruit 18 = .ok (.ifCond .ne 5, 3) := by decide +kernel
theorem dX3_readFruit_21 : decode cX3_readFruit 21 = .ok (.iconst 0, 1) := by decide +kernel
theorem dX3_readFruit_22 : decode cX3_readFruit 22 = .ok (.ireturn, 1) := by decide +kernel
theorem dX3_readFruit_23 : decode cX3_readFruit 23 = .ok (.aload_n 0, 1) := by decide +kernel
theorem dX3_readFruit_24 : decode cX3_readFruit 24 = .ok (.getfield 18, 3) := by decide +kernel
theorem dX3_readFruit_27 : decode cX3_readFruit 27 = .ok (.iload_n 2, 1) := by decide +kernel
theorem dX3_readFruit_28 : decode cX3_readFruit 28 = .ok (.aload_n 1, 1) := by decide +kernel
theorem dX3_readFruit_29 : decode cX3_readFruit 29 = .ok (.bipush 42, 2) := by decide +kernel
theorem dX3_readFruit_31 : decode cX3_readFruit 31 = .ok (.invokevirtual 54, 3) := by decide +kernel
theorem dX3_readFruit_34 : decode cX3_readFruit 34 = .ok (.ifCond .eq 11, 3) := by decide +kernel
theorem dX3_readFruit_37 : decode cX3_readFruit 37 = .ok (.aload_n 1, 1) := by decide +kernel
theorem dX3_readFruit_38 : decode cX3_readFruit 38 = .ok (.iconst 1, 1) := by decide +kernel
theorem dX3_readFruit_39 : decode cX3_readFruit 39 = .ok (.invokevirtual 76, 3) := by decide +kernel
theorem dX3_readFruit_42 : decode cX3_readFruit 42 = .ok (.goto 4, 3) := by decide +kernel
theorem dX3_readFruit_45 : decode cX3_readFruit 45 = .ok (.iconst 1, 1) := by decide +kernel
theorem dX3_readFruit_46 : decode cX3_readFruit 46 = .ok (.iastore, 1) := by decide +kernel
theorem dX3_readFruit_47 : decode cX3_readFruit 47 = .ok (.aload_n 0, 1) := by decide +kernel
theorem dX3_readFruit_48 : decode cX3_readFruit 48 = .ok (.getfield 18, 3) := by decide +kernel
theorem dX3_readFruit_51 : decode cX3_readFruit 51 = .ok (.iload_n 2, 1) := by decide +kernel
theorem dX3_readFruit_52 : decode cX3_readFruit 52 = .ok (.iaload, 1) := by decide +kernel
theorem dX3_readFruit_53 : decode cX3_readFruit 53 = .ok (.iconst (-1), 1) := by decide +kernel
theorem dX3_readFruit_54 : decode cX3_readFruit 54 = .ok (.if_icmp .ne 5, 3) := by decide +kernel
theorem dX3_readFruit_57 : decode cX3_readFruit 57 = .ok (.iconst 0, 1) := by decide +kernel
theorem dX3_readFruit_58 : decode cX3_readFruit 58 = .ok (.ireturn, 1) := by decide +kernel
theorem dX3_readFruit_59 : decode cX3_readFruit 59 = .ok (.aload_n 0, 1) := by decide +kernel
theorem dX3_readFruit_60 : decode cX3_readFruit 60 = .ok (.getfield 21, 3) := by decide +kernel
theorem dX3_readFruit_63 : decode cX3_readFruit 63 = .ok (.iload_n 2, 1) := by decide +kernel
theorem dX3_readFruit_64 : decode cX3_readFruit 64 = .ok (.aload_n 1, 1) := by decide +kernel
theorem dX3_readFruit_65 : decode cX3_readFruit 65 = .ok (.bipush 64, 2) := by decide +kernel
theorem dX3_readFruit_67 : decode cX3_readFruit 67 = .ok (.invokevirtual 54, 3) := by decide +kernel
theorem dX3_readFruit_70 : decode cX3_readFruit 70 = .ok (.ifCond .eq 11, 3) := by decide +kernel
theorem dX3_readFruit_73 : decode cX3_readFruit 73 = .ok (.aload_n 1, 1) := by decide +kernel
theorem dX3_readFruit_74 : decode cX3_readFruit 74 = .ok (.iconst 1, 1) := by decide +kernel
theorem dX3_readFruit_75 : decode cX3_readFruit 75 = .ok (.invokevirtual 76, 3) := by decide +kernel
theorem dX3_readFruit_78 : decode cX3_readFruit 78 = .ok (.goto 4, 3) := by decide +kernel
theorem dX3_readFruit_81 : decode cX3_readFruit 81 = .ok (.iconst 0, 1) := by decide +kernel
theorem dX3_readFruit_82 : decode cX3_readFruit 82 = .ok (.iastore, 1) := by decide +kernel
theorem dX3_readFruit_83 : decode cX3_readFruit 83 = .ok (.aload_n 0, 1) := by decide +kernel
theorem dX3_readFruit_84 : decode cX3_readFruit 84 = .ok (.getfield 21, 3) := by decide +kernel
theorem dX3_readFruit_87 : decode cX3_readFruit 87 = .ok (.iload_n 2, 1) := by decide +kernel
theorem dX3_readFruit_88 : decode cX3_readFruit 88 = .ok (.iaload, 1) := by decide +kernel
theorem dX3_readFruit_89 : decode cX3_readFruit 89 = .ok (.iconst (-1), 1) := by decide +kernel
theorem dX3_readFruit_90 : decode cX3_readFruit 90 = .ok (.if_icmp .ne 5, 3) := by decide +kernel
theorem dX3_readFruit_93 : decode cX3_readFruit 93 = .ok (.iconst 0, 1) := by decide +kernel
theorem dX3_readFruit_94 : decode cX3_readFruit 94 = .ok (.ireturn, 1) := by decide +kernel
theorem dX3_readFruit_95 : decode cX3_readFruit 95 = .ok (.aload_n 0, 1) := by decide +kernel
theorem dX3_readFruit_96 : decode cX3_readFruit 96 = .ok (.dup, 1) := by decide +kernel
theorem dX3_readFruit_97 : decode cX3_readFruit 97 = .ok (.getfield 44, 3) := by decide +kernel
theorem dX3_readFruit_100 : decode cX3_readFruit 100 = .ok (.iconst 1, 1) := by decide +kernel
theorem dX3_readFruit_101 : decode cX3_readFruit 101 = .ok (.iadd, 1) := by decide +kernel
theorem dX3_readFruit_102 : decode cX3_readFruit 102 = .ok (.putfield 44, 3) := by decide +kernel
theorem dX3_readFruit_105 : decode cX3_readFruit 105 = .ok (.iconst 1, 1) := by decide +kernel
theorem dX3_readFruit_106 : decode cX3_readFruit 106 = .ok (.ireturn, 1) := by decide +kernel
theorem dX3_readStanding_0 : decode cX3_readStanding 0 = .ok (.aload_n 1, 1) := by decide +kernel
theorem dX3_readStanding_1 : decode cX3_readStanding 1 = .ok (.aload_n 0, 1) := by decide +kernel
theorem dX3_readStanding_2 : decode cX3_readStanding 2 = .ok (.getfield 24, 3) := by decide +kernel
theorem dX3_readStanding_5 : decode cX3_readStanding 5 = .ok (.aload_n 0, 1) := by decide +kernel
theorem dX3_readStanding_6 : decode cX3_readStanding 6 = .ok (.getfield 27, 3) := by decide +kernel
theorem dX3_readStanding_9 : decode cX3_readStanding 9 = .ok (.aload_n 0, 1) := by decide +kernel
theorem dX3_readStanding_10 : decode cX3_readStanding 10 = .ok (.getfield 47, 3) := by decide +kernel
theorem dX3_readStanding_13 : decode cX3_readStanding 13 = .ok (.invokestatic 72, 3) := by decide +kernel
theorem dX3_readStanding_16 : decode cX3_readStanding 16 = .ok (.ifCond .ne 5, 3) := by decide +kernel
theorem dX3_readStanding_19 : decode cX3_readStanding 19 = .ok (.iconst 0, 1) := by decide +kernel
theorem dX3_readStanding_20 : decode cX3_readStanding 20 = .ok (.ireturn, 1) := by decide +kernel
theorem dX3_readStanding_21 : decode cX3_readStanding 21 = .ok (.aload_n 0, 1) := by decide +kernel
theorem dX3_readStanding_22 : decode cX3_readStanding 22 = .ok (.dup, 1) := by decide +kernel
theorem dX3_readStanding_23 : decode cX3_readStanding 23 = .ok (.getfield 47, 3) := by decide +kernel
theorem dX3_readStanding_26 : decode cX3_readStanding 26 = .ok (.iconst 1, 1) := by decide +kernel
theorem dX3_readStanding_27 : decode cX3_readStanding 27 = .ok (.iadd, 1) := by decide +kernel
theorem dX3_readStanding_28 : decode cX3_readStanding 28 = .ok (.putfield 47, 3) := by decide +kernel
theorem dX3_readStanding_31 : decode cX3_readStanding 31 = .ok (.iconst 1, 1) := by decide +kernel
theorem dX3_readStanding_32 : decode cX3_readStanding 32 = .ok (.ireturn, 1) := by decide +kernel
theorem dX3_readLine_0 : decode cX3_readLine 0 = .ok (.aload_n 1, 1) := by decide +kernel
theorem dX3_readLine_1 : decode cX3_readLine 1 = .ok (.invokevirtual 60, 3) := by decide +kernel
theorem dX3_readLine_4 : decode cX3_readLine 4 = .ok (.bipush 102, 2) := by decide +kernel
theorem dX3_readLine_6 : decode cX3_readLine 6 = .ok (.if_icmp .ne 22, 3) := by decide +kernel
theorem dX3_readLine_9 : decode cX3_readLine 9 = .ok (.aload_n 0, 1) := by decide +kernel
theorem dX3_readLine_10 : decode cX3_readLine 10 = .ok (.getfield 44, 3) := by decide +kernel
theorem dX3_readLine_13 : decode cX3_readLine 13 = .ok (.bipush 16, 2) := by decide +kernel
theorem dX3_readLine_15 : decode cX3_readLine 15 = .ok (.if_icmp .ge 13, 3) := by decide +kernel
theorem dX3_readLine_18 : decode cX3_readLine 18 = .ok (.aload_n 1, 1) := by decide +kernel
theorem dX3_readLine_19 : decode cX3_readLine 19 = .ok (.invokevirtual 63, 3) := by decide +kernel
theorem dX3_readLine_22 : decode cX3_readLine 22 = .ok (.aload_n 0, 1) := by decide +kernel
theorem dX3_readLine_23 : decode cX3_readLine 23 = .ok (.aload_n 1, 1) := by decide +kernel
theorem dX3_readLine_24 : decode cX3_readLine 24 = .ok (.invokevirtual 66, 3) := by decide +kernel
theorem dX3_readLine_27 : decode cX3_readLine 27 = .ok (.ireturn, 1) := by decide +kernel
theorem dX3_readLine_28 : decode cX3_readLine 28 = .ok (.aload_n 1, 1) := by decide +kernel
theorem dX3_readLine_29 : decode cX3_readLine 29 = .ok (.invokevirtual 60, 3) := by decide +kernel
theorem dX3_readLine_32 : decode cX3_readLine 32 = .ok (.bipush 115, 2) := by decide +kernel
theorem dX3_readLine_34 : decode cX3_readLine 34 = .ok (.if_icmp .ne 22, 3) := by decide +kernel
theorem dX3_readLine_37 : decode cX3_readLine 37 = .ok (.aload_n 0, 1) := by decide +kernel
theorem dX3_readLine_38 : decode cX3_readLine 38 = .ok (.getfield 47, 3) := by decide +kernel
theorem dX3_readLine_41 : decode cX3_readLine 41 = .ok (.bipush 8, 2) := by decide +kernel
theorem dX3_readLine_43 : decode cX3_readLine 43 = .ok (.if_icmp .ge 13, 3) := by decide +kernel
theorem dX3_readLine_46 : decode cX3_readLine 46 = .ok (.aload_n 1, 1) := by decide +kernel
theorem dX3_readLine_47 : decode cX3_readLine 47 = .ok (.invokevirtual 63, 3) := by decide +kernel
theorem dX3_readLine_50 : decode cX3_readLine 50 = .ok (.aload_n 0, 1) := by decide +kernel
theorem dX3_readLine_51 : decode cX3_readLine 51 = .ok (.aload_n 1, 1) := by decide +kernel
theorem dX3_readLine_52 : decode cX3_readLine 52 = .ok (.invokevirtual 69, 3) := by decide +kernel
theorem dX3_readLine_55 : decode cX3_readLine 55 = .ok (.ireturn, 1) := by decide +kernel
theorem dX3_readLine_56 : decode cX3_readLine 56 = .ok (.iconst 0, 1) := by decide +kernel
theorem dX3_readLine_57 : decode cX3_readLine 57 = .ok (.ireturn, 1) := by decide +kernel
theorem dX3_readLines_0 : decode cX3_readLines 0 = .ok (.aload_n 0, 1) := by decide +kernel
theorem dX3_readLines_1 : decode cX3_readLines 1 = .ok (.aload_n 0, 1) := by decide +kernel
theorem dX3_readLines_2 : decode cX3_readLines 2 = .ok (.getfield 33, 3) := by decide +kernel
theorem dX3_readLines_5 : decode cX3_readLines 5 = .ok (.putfield 44, 3) := by decide +kernel
theorem dX3_readLines_8 : decode cX3_readLines 8 = .ok (.aload_n 0, 1) := by decide +kernel
theorem dX3_readLines_9 : decode cX3_readLines 9 = .ok (.aload_n 0, 1) := by decide +kernel
theorem dX3_readLines_10 : decode cX3_readLines 10 = .ok (.getfield 37, 3) := by decide +kernel
theorem dX3_readLines_13 : decode cX3_readLines 13 = .ok (.putfield 47, 3) := by decide +kernel
theorem dX3_readLines_16 : decode cX3_readLines 16 = .ok (.iconst 1, 1) := by decide +kernel
theorem dX3_readLines_17 : decode cX3_readLines 17 = .ok (.istore_n 2, 1) := by decide +kernel
theorem dX3_readLines_18 : decode cX3_readLines 18 = .ok (.iload_n 2, 1) := by decide +kernel
theorem dX3_readLines_19 : decode cX3_readLines 19 = .ok (.bipush 76, 2) := by decide +kernel
theorem dX3_readLines_21 : decode cX3_readLines 21 = .ok (.if_icmp .gt 30, 3) := by decide +kernel
theorem dX3_readLines_24 : decode cX3_readLines 24 = .ok (.aload_n 0, 1) := by decide +kernel
theorem dX3_readLines_25 : decode cX3_readLines 25 = .ok (.aload_n 1, 1) := by decide +kernel
theorem dX3_readLines_26 : decode cX3_readLines 26 = .ok (.invokevirtual 50, 3) := by decide +kernel
theorem dX3_readLines_29 : decode cX3_readLines 29 = .ok (.ifCond .ne 5, 3) := by decide +kernel
theorem dX3_readLines_32 : decode cX3_readLines 32 = .ok (.iconst (-1), 1) := by decide +kernel
theorem dX3_readLines_33 : decode cX3_readLines 33 = .ok (.ireturn, 1) := by decide +kernel
theorem dX3_readLines_34 : decode cX3_readLines 34 = .ok (.aload_n 1, 1) := by decide +kernel
theorem dX3_readLines_35 : decode cX3_readLines 35 = .ok (.bipush 59, 2) := by decide +kernel
theorem dX3_readLines_37 : decode cX3_readLines 37 = .ok (.invokevirtual 54, 3) := by decide +kernel
theorem dX3_readLines_40 : decode cX3_readLines 40 = .ok (.ifCond .ne 5, 3) := by decide +kernel
theorem dX3_readLines_43 : decode cX3_readLines 43 = .ok (.iload_n 2, 1) := by decide +kernel
theorem dX3_readLines_44 : decode cX3_readLines 44 = .ok (.ireturn, 1) := by decide +kernel
theorem dX3_readLines_45 : decode cX3_readLines 45 = .ok (.iinc 2 1, 3) := by decide +kernel
theorem dX3_readLines_48 : decode cX3_readLines 48 = .ok (.goto (-30), 3) := by decide +kernel
theorem dX3_readLines_51 : decode cX3_readLines 51 = .ok (.iconst (-1), 1) := by decide +kernel
theorem dX3_readLines_52 : decode cX3_readLines 52 = .ok (.ireturn, 1) := by decide +kernel
theorem dX9_orchard_0 : decode cX9_orchard 0 = .ok (.aload_n 0, 1) := by decide +kernel
theorem dX9_orchard_1 : decode cX9_orchard 1 = .ok (.getfield 10, 3) := by decide +kernel
theorem dX9_orchard_4 : decode cX9_orchard 4 = .ok (.bipush 76, 2) := by decide +kernel
theorem dX9_orchard_6 : decode cX9_orchard 6 = .ok (.invokevirtual 73, 3) := by decide +kernel
theorem dX9_orchard_9 : decode cX9_orchard 9 = .ok (.aload_n 0, 1) := by decide +kernel
theorem dX9_orchard_10 : decode cX9_orchard 10 = .ok (.getfield 10, 3) := by decide +kernel
theorem dX9_orchard_13 : decode cX9_orchard 13 = .ok (.getfield 77, 3) := by decide +kernel
theorem dX9_orchard_16 : decode cX9_orchard 16 = .ok (.ifCond .ne 7, 3) := by decide +kernel
theorem dX9_orchard_19 : decode cX9_orchard 19 = .ok (.iconst 0, 1) := by decide +kernel
theorem dX9_orchard_20 : decode cX9_orchard 20 = .ok (.goto 14, 3) := by decide +kernel
theorem dX9_orchard_23 : decode cX9_orchard 23 = .ok (.aload_n 0, 1) := by decide +kernel
theorem dX9_orchard_24 : decode cX9_orchard 24 = .ok (.getfield 34, 3) := by decide +kernel
theorem dX9_orchard_27 : decode cX9_orchard 27 = .ok (.aload_n 0, 1) := by decide +kernel
theorem dX9_orchard_28 : decode cX9_orchard 28 = .ok (.getfield 10, 3) := by decide +kernel
theorem dX9_orchard_31 : decode cX9_orchard 31 = .ok (.invokevirtual 81, 3) := by decide +kernel
theorem dX9_orchard_34 : decode cX9_orchard 34 = .ok (.istore_n 1, 1) := by decide +kernel
theorem dX9_orchard_35 : decode cX9_orchard 35 = .ok (.iload_n 1, 1) := by decide +kernel
theorem dX9_orchard_36 : decode cX9_orchard 36 = .ok (.iconst (-1), 1) := by decide +kernel
theorem dX9_orchard_37 : decode cX9_orchard 37 = .ok (.if_icmp .eq 17, 3) := by decide +kernel
theorem dX9_orchard_40 : decode cX9_orchard 40 = .ok (.aload_n 0, 1) := by decide +kernel
theorem dX9_orchard_41 : decode cX9_orchard 41 = .ok (.getfield 10, 3) := by decide +kernel
theorem dX9_orchard_44 : decode cX9_orchard 44 = .ok (.invokevirtual 87, 3) := by decide +kernel
theorem dX9_orchard_47 : decode cX9_orchard 47 = .ok (.ifCond .eq 7, 3) := by decide +kernel
theorem dX9_orchard_50 : decode cX9_orchard 50 = .ok (.iconst 1, 1) := by decide +kernel
theorem dX9_orchard_51 : decode cX9_orchard 51 = .ok (.goto 4, 3) := by decide +kernel
theorem dX9_orchard_54 : decode cX9_orchard 54 = .ok (.iconst 0, 1) := by decide +kernel
theorem dX9_orchard_55 : decode cX9_orchard 55 = .ok (.istore_n 2, 1) := by decide +kernel
theorem dX9_orchard_56 : decode cX9_orchard 56 = .ok (.iload_n 2, 1) := by decide +kernel
theorem dX9_orchard_57 : decode cX9_orchard 57 = .ok (.ifCond .eq 7, 3) := by decide +kernel
theorem dX9_orchard_60 : decode cX9_orchard 60 = .ok (.iload_n 1, 1) := by decide +kernel
theorem dX9_orchard_61 : decode cX9_orchard 61 = .ok (.goto 10, 3) := by decide +kernel
theorem dX9_orchard_64 : decode cX9_orchard 64 = .ok (.aload_n 0, 1) := by decide +kernel
theorem dX9_orchard_65 : decode cX9_orchard 65 = .ok (.getfield 10, 3) := by decide +kernel
theorem dX9_orchard_68 : decode cX9_orchard 68 = .ok (.invokevirtual 91, 3) := by decide +kernel
theorem dX9_orchard_71 : decode cX9_orchard 71 = .ok (.istore_n 3, 1) := by decide +kernel
theorem dX9_orchard_72 : decode cX9_orchard 72 = .ok (.iload_n 2, 1) := by decide +kernel
theorem dX9_orchard_73 : decode cX9_orchard 73 = .ok (.ifCond .eq 21, 3) := by decide +kernel
theorem dX9_orchard_76 : decode cX9_orchard 76 = .ok (.iload_n 1, 1) := by decide +kernel
theorem dX9_orchard_77 : decode cX9_orchard 77 = .ok (.ifCond .le 17, 3) := by decide +kernel
theorem dX9_orchard_80 : decode cX9_orchard 80 = .ok (.aload_n 0, 1) := by decide +kernel
theorem dX9_orchard_81 : decode cX9_orchard 81 = .ok (.getfield 34, 3) := by decide +kernel
theorem dX9_orchard_84 : decode cX9_orchard 84 = .ok (.invokevirtual 95, 3) := by decide +kernel
theorem dX9_orchard_87 : decode cX9_orchard 87 = .ok (.aload_n 0, 1) := by decide +kernel
theorem dX9_orchard_88 : decode cX9_orchard 88 = .ok (.getfield 43, 3) := by decide +kernel
theorem dX9_orchard_91 : decode cX9_orchard 91 = .ok (.invokevirtual 98, 3) := by decide +kernel
theorem dX9_orchard_94 : decode cX9_orchard 94 = .ok (.aload_n 0, 1) := by decide +kernel
theorem dX9_orchard_95 : decode cX9_orchard 95 = .ok (.getfield 10, 3) := by decide +kernel
theorem dX9_orchard_98 : decode cX9_orchard 98 = .ok (.invokevirtual 101, 3) := by decide +kernel
theorem dX9_orchard_101 : decode cX9_orchard 101 = .ok (.iload_n 3, 1) := by decide +kernel
theorem dX9_orchard_102 : decode cX9_orchard 102 = .ok (.ireturn, 1) := by decide +kernel
theorem dX7_drop_0 : decode cX7_drop 0 = .ok (.aload_n 0, 1) := by decide +kernel
theorem dX7_drop_1 : decode cX7_drop 1 = .ok (.iconst 0, 1) := by decide +kernel
theorem dX7_drop_2 : decode cX7_drop 2 = .ok (.putfield 35, 3) := by decide +kernel
theorem dX7_drop_5 : decode cX7_drop 5 = .ok (.return_, 1) := by decide +kernel
theorem dX7_hold_0 : decode cX7_hold 0 = .ok (.aload_n 0, 1) := by decide +kernel
theorem dX7_hold_1 : decode cX7_hold 1 = .ok (.getfield 41, 3) := by decide +kernel
theorem dX7_hold_4 : decode cX7_hold 4 = .ok (.aload_n 0, 1) := by decide +kernel
theorem dX7_hold_5 : decode cX7_hold 5 = .ok (.getfield 23, 3) := by decide +kernel
theorem dX7_hold_8 : decode cX7_hold 8 = .ok (.arraylength, 1) := by decide +kernel
theorem dX7_hold_9 : decode cX7_hold 9 = .ok (.if_icmp .ge 23, 3) := by decide +kernel
theorem dX7_hold_12 : decode cX7_hold 12 = .ok (.aload_n 0, 1) := by decide +kernel
theorem dX7_hold_13 : decode cX7_hold 13 = .ok (.getfield 23, 3) := by decide +kernel
theorem dX7_hold_16 : decode cX7_hold 16 = .ok (.aload_n 0, 1) := by decide +kernel
theorem dX7_hold_17 : decode cX7_hold 17 = .ok (.getfield 41, 3) := by decide +kernel
theorem dX7_hold_20 : decode cX7_hold 20 = .ok (.iload_n 1, 1) := by decide +kernel
theorem dX7_hold_21 : decode cX7_hold 21 = .ok (.iastore, 1) := by decide +kernel
theorem dX7_hold_22 : decode cX7_hold 22 = .ok (.aload_n 0, 1) := by decide +kernel
theorem dX7_hold_23 : decode cX7_hold 23 = .ok (.dup, 1) := by decide +kernel
theorem dX7_hold_24 : decode cX7_hold 24 = .ok (.getfield 41, 3) := by decide +kernel
theorem dX7_hold_27 : decode cX7_hold 27 = .ok (.iconst 1, 1) := by decide +kernel
theorem dX7_hold_28 : decode cX7_hold 28 = .ok (.iadd, 1) := by decide +kernel
theorem dX7_hold_29 : decode cX7_hold 29 = .ok (.putfield 41, 3) := by decide +kernel
theorem dX7_hold_32 : decode cX7_hold 32 = .ok (.return_, 1) := by decide +kernel
theorem dX7_emit_0 : decode cX7_emit 0 = .ok (.aload_n 0, 1) := by decide +kernel
theorem dX7_emit_1 : decode cX7_emit 1 = .ok (.getfield 38, 3) := by decide +kernel
theorem dX7_emit_4 : decode cX7_emit 4 = .ok (.aload_n 0, 1) := by decide +kernel
theorem dX7_emit_5 : decode cX7_emit 5 = .ok (.getfield 32, 3) := by decide +kernel
theorem dX7_emit_8 : decode cX7_emit 8 = .ok (.arraylength, 1) := by decide +kernel
theorem dX7_emit_9 : decode cX7_emit 9 = .ok (.if_icmp .ge 23, 3) := by decide +kernel
theorem dX7_emit_12 : decode cX7_emit 12 = .ok (.aload_n 0, 1) := by decide +kernel
theorem dX7_emit_13 : decode cX7_emit 13 = .ok (.getfield 32, 3) := by decide +kernel
theorem dX7_emit_16 : decode cX7_emit 16 = .ok (.aload_n 0, 1) := by decide +kernel
theorem dX7_emit_17 : decode cX7_emit 17 = .ok (.getfield 38, 3) := by decide +kernel
theorem dX7_emit_20 : decode cX7_emit 20 = .ok (.iload_n 1, 1) := by decide +kernel
theorem dX7_emit_21 : decode cX7_emit 21 = .ok (.iastore, 1) := by decide +kernel
theorem dX7_emit_22 : decode cX7_emit 22 = .ok (.aload_n 0, 1) := by decide +kernel
theorem dX7_emit_23 : decode cX7_emit 23 = .ok (.dup, 1) := by decide +kernel
theorem dX7_emit_24 : decode cX7_emit 24 = .ok (.getfield 38, 3) := by decide +kernel
theorem dX7_emit_27 : decode cX7_emit 27 = .ok (.iconst 1, 1) := by decide +kernel
theorem dX7_emit_28 : decode cX7_emit 28 = .ok (.iadd, 1) := by decide +kernel
theorem dX7_emit_29 : decode cX7_emit 29 = .ok (.putfield 38, 3) := by decide +kernel
theorem dX7_emit_32 : decode cX7_emit 32 = .ok (.return_, 1) := by decide +kernel
theorem dX7_readPlainThing_0 : decode cX7_readPlainThing 0 = .ok (.aload_n 1, 1) := by decide +kernel
theorem dX7_readPlainThing_1 : decode cX7_readPlainThing 1 = .ok (.iconst 3, 1) := by decide +kernel
theorem dX7_readPlainThing_2 : decode cX7_readPlainThing 2 = .ok (.invokevirtual 83, 3) := by decide +kernel
theorem dX7_readPlainThing_5 : decode cX7_readPlainThing 5 = .ok (.istore_n 2, 1) := by decide +kernel
theorem dX7_readPlainThing_6 : decode cX7_readPlainThing 6 = .ok (.iload_n 2, 1) := by decide +kernel
theorem dX7_readPlainThing_7 : decode cX7_readPlainThing 7 = .ok (.iconst (-1), 1) := by decide +kernel
theorem dX7_readPlainThing_8 : decode cX7_readPlainThing 8 = .ok (.if_icmp .ne 30, 3) := by decide +kernel
theorem dX7_readPlainThing_11 : decode cX7_readPlainThing 11 = .ok (.ldc 11, 2) := by decide +kernel
theorem dX7_readPlainThing_13 : decode cX7_readPlainThing 13 = .ok (.aload_n 1, 1) := by decide +kernel
theorem dX7_readPlainThing_14 : decode cX7_readPlainThing 14 = .ok (.invokevirtual 54, 3) := by decide +kernel
theorem dX7_readPlainThing_17 : decode cX7_readPlainThing 17 = .ok (.i2c, 1) := by decide +kernel
theorem dX7_readPlainThing_18 : decode cX7_readPlainThing 18 = .ok (.invokevirtual 87, 3) := by decide +kernel
theorem dX7_readPlainThing_21 : decode cX7_readPlainThing 21 = .ok (.istore_n 3, 1) := by decide +kernel
theorem dX7_readPlainThing_22 : decode cX7_readPlainThing 22 = .ok (.iload_n 3, 1) := by decide +kernel
theorem dX7_readPlainThing_23 : decode cX7_readPlainThing 23 = .ok (.ifCond .ge 5, 3) := by decide +kernel
theorem dX7_readPlainThing_26 : decode cX7_readPlainThing 26 = .ok (.iconst 0, 1) := by decide +kernel
theorem dX7_readPlainThing_27 : decode cX7_readPlainThing 27 = .ok (.ireturn, 1) := by decide +kernel
theorem dX7_readPlainThing_28 : decode cX7_readPlainThing 28 = .ok (.sipush 1000, 3) := by decide +kernel
theorem dX7_readPlainThing_31 : decode cX7_readPlainThing 31 = .ok (.iload_n 3, 1) := by decide +kernel
theorem dX7_readPlainThing_32 : decode cX7_readPlainThing 32 = .ok (.iadd, 1) := by decide +kernel
theorem dX7_readPlainThing_33 : decode cX7_readPlainThing 33 = .ok (.istore_n 2, 1) := by decide +kernel
theorem dX7_readPlainThing_34 : decode cX7_readPlainThing 34 = .ok (.aload_n 1, 1) := by decide +kernel
theorem dX7_readPlainThing_35 : decode cX7_readPlainThing 35 = .ok (.invokevirtual 80, 3) := by decide +kernel
theorem dX7_readPlainThing_38 : decode cX7_readPlainThing 38 = .ok (.aload_n 0, 1) := by decide +kernel
theorem dX7_readPlainThing_39 : decode cX7_readPlainThing 39 = .ok (.iload_n 2, 1) := by decide +kernel
theorem dX7_readPlainThing_40 : decode cX7_readPlainThing 40 = .ok (.invokevirtual 90, 3) := by decide +kernel
theorem dX7_readPlainThing_43 : decode cX7_readPlainThing 43 = .ok (.aload_n 0, 1) := by decide +kernel
theorem dX7_readPlainThing_44 : decode cX7_readPlainThing 44 = .ok (.iconst 0, 1) := by decide +kernel
theorem dX7_readPlainThing_45 : decode cX7_readPlainThing 45 = .ok (.putfield 50, 3) := by decide +kernel
theorem dX7_readPlainThing_48 : decode cX7_readPlainThing 48 = .ok (.iconst 1, 1) := by decide +kernel
theorem dX7_readPlainThing_49 : decode cX7_readPlainThing 49 = .ok (.ireturn, 1) := by decide +kernel
theorem dX7_readThing_0 : decode cX7_readThing 0 = .ok (.aload_n 1, 1) := by decide +kernel
theorem dX7_readThing_1 : decode cX7_readThing 1 = .ok (.invokevirtual 54, 3) := by decide +kernel
theorem dX7_readThing_4 : decode cX7_readThing 4 = .ok (.istore_n 2, 1) := by decide +kernel
theorem dX7_readThing_5 : decode cX7_readThing 5 = .ok (.iload_n 2, 1) := by decide +kernel
theorem dX7_readThing_6 : decode cX7_readThing 6 = .ok (.bipush 45, 2) := by decide +kernel
theorem dX7_readThing_8 : decode cX7_readThing 8 = .ok (.if_icmp .ne 13, 3) := by decide +kernel
theorem dX7_readThing_11 : decode cX7_readThing 11 = .ok (.aload_n 0, 1) := by decide +kernel
theorem dX7_readThing_12 : decode cX7_readThing 12 = .ok (.sipush 256, 3) := by decide +kernel
theorem dX7_readThing_15 : decode cX7_readThing 15 = .ok (.invokevirtual 74, 3) := by decide +kernel
theorem dX7_readThing_18 : decode cX7_readThing 18 = .ok (.goto 60, 3) := by decide +kernel
theorem dX7_readThing_21 : decode cX7_readThing 21 = .ok (.iload_n 2, 1) := by decide +kernel
theorem dX7_readThing_22 : decode cX7_readThing 22 = .ok (.bipush 40, 2) := by decide +kernel
theorem dX7_readThing_24 : decode cX7_readThing 24 = .ok (.if_icmp .ne 48, 3) := by decide +kernel
theorem dX7_readThing_27 : decode cX7_readThing 27 = .ok (.aload_n 0, 1) := by decide +kernel
theorem dX7_readThing_28 : decode cX7_readThing 28 = .ok (.getfield 44, 3) := by decide +kernel
theorem dX7_readThing_31 : decode cX7_readThing 31 = .ok (.iconst 4, 1) := by decide +kernel
theorem dX7_readThing_32 : decode cX7_readThing 32 = .ok (.if_icmp .lt 5, 3) := by decide +kernel
theorem dX7_readThing_35 : decode cX7_readThing 35 = .ok (.iconst 0, 1) := by decide +kernel
theorem dX7_readThing_36 : decode cX7_readThing 36 = .ok (.ireturn, 1) := by decide +kernel
theorem dX7_readThing_37 : decode cX7_readThing 37 = .ok (.aload_n 0, 1) := by decide +kernel
theorem dX7_readThing_38 : decode cX7_readThing 38 = .ok (.dup, 1) := by decide +kernel
theorem dX7_readThing_39 : decode cX7_readThing 39 = .ok (.getfield 44, 3) := by decide +kernel
theorem dX7_readThing_42 : decode cX7_readThing 42 = .ok (.iconst 1, 1) := by decide +kernel
theorem dX7_readThing_43 : decode cX7_readThing 43 = .ok (.iadd, 1) := by decide +kernel
theorem dX7_readThing_44 : decode cX7_readThing 44 = .ok (.putfield 44, 3) := by decide +kernel
theorem dX7_readThing_47 : decode cX7_readThing 47 = .ok (.aload_n 0, 1) := by decide +kernel
theorem dX7_readThing_48 : decode cX7_readThing 48 = .ok (.dup, 1) := by decide +kernel
theorem dX7_readThing_49 : decode cX7_readThing 49 = .ok (.getfield 47, 3) := by decide +kernel
theorem dX7_readThing_52 : decode cX7_readThing 52 = .ok (.iconst 1, 1) := by decide +kernel
theorem dX7_readThing_53 : decode cX7_readThing 53 = .ok (.aload_n 0, 1) := by decide +kernel
theorem dX7_readThing_54 : decode cX7_readThing 54 = .ok (.getfield 44, 3) := by decide +kernel
theorem dX7_readThing_57 : decode cX7_readThing 57 = .ok (.ishl, 1) := by decide +kernel
theorem dX7_readThing_58 : decode cX7_readThing 58 = .ok (.iconst (-1), 1) := by decide +kernel
theorem dX7_readThing_59 : decode cX7_readThing 59 = .ok (.ixor, 1) := by decide +kernel
theorem dX7_readThing_60 : decode cX7_readThing 60 = .ok (.iand, 1) := by decide +kernel
theorem dX7_readThing_61 : decode cX7_readThing 61 = .ok (.putfield 47, 3) := by decide +kernel
theorem dX7_readThing_64 : decode cX7_readThing 64 = .ok (.aload_n 0, 1) := by decide +kernel
theorem dX7_readThing_65 : decode cX7_readThing 65 = .ok (.iload_n 2, 1) := by decide +kernel
theorem dX7_readThing_66 : decode cX7_readThing 66 = .ok (.invokevirtual 74, 3) := by decide +kernel
theorem dX7_readThing_69 : decode cX7_readThing 69 = .ok (.goto 9, 3) := by decide +kernel
theorem dX7_readThing_72 : decode cX7_readThing 72 = .ok (.aload_n 0, 1) := by decide +kernel
theorem dX7_readThing_73 : decode cX7_readThing 73 = .ok (.aload_n 1, 1) := by decide +kernel
theorem dX7_readThing_74 : decode cX7_readThing 74 = .ok (.invokevirtual 77, 3) := by decide +kernel
theorem dX7_readThing_77 : decode cX7_readThing 77 = .ok (.ireturn, 1) := by decide +kernel
theorem dX7_readThing_78 : decode cX7_readThing 78 = .ok (.aload_n 1, 1) := by decide +kernel
theorem dX7_readThing_79 : decode cX7_readThing 79 = .ok (.invokevirtual 80, 3) := by decide +kernel
theorem dX7_readThing_82 : decode cX7_readThing 82 = .ok (.iconst 1, 1) := by decide +kernel
theorem dX7_readThing_83 : decode cX7_readThing 83 = .ok (.ireturn, 1) := by decide +kernel
theorem dX7_strength_0 : decode cX7_strength 0 = .ok (.iload_n 0, 1) := by decide +kernel
theorem dX7_strength_1 : decode cX7_strength 1 = .ok (.lookupswitch 83 #[(42, 79), (43, 77), (45, 77), (47, 79), (60, 75), (61, 75), (62, 75), (256, 81)], 75) := by decide +kernel
theorem dX7_strength_76 : decode cX7_strength 76 = .ok (.iconst 1, 1) := by decide +kernel
theorem dX7_strength_77 : decode cX7_strength 77 = .ok (.ireturn, 1) := by decide +kernel
theorem dX7_strength_78 : decode cX7_strength 78 = .ok (.iconst 2, 1) := by decide +kernel
theorem dX7_strength_79 : decode cX7_strength 79 = .ok (.ireturn, 1) := by decide +kernel
theorem dX7_strength_80 : decode cX7_strength 80 = .ok (.iconst 3, 1) := by decide +kernel
theorem dX7_strength_81 : decode cX7_strength 81 = .ok (.ireturn, 1) := by decide +kernel
theorem dX7_strength_82 : decode cX7_strength 82 = .ok (.iconst 4, 1) := by decide +kernel
theorem dX7_strength_83 : decode cX7_strength 83 = .ok (.ireturn, 1) := by decide +kernel
theorem dX7_strength_84 : decode cX7_strength 84 = .ok (.iconst 0, 1) := by decide +kernel
theorem dX7_strength_85 : decode cX7_strength 85 = .ok (.ireturn, 1) := by decide +kernel
theorem dX7_settle_0 : decode cX7_settle 0 = .ok (.aload_n 0, 1) := by decide +kernel
theorem dX7_settle_1 : decode cX7_settle 1 = .ok (.getfield 41, 3) := by decide +kernel
theorem dX7_settle_4 : decode cX7_settle 4 = .ok (.ifCond .le 51, 3) := by decide +kernel
theorem dX7_settle_7 : decode cX7_settle 7 = .ok (.aload_n 0, 1) := by decide +kernel
theorem dX7_settle_8 : decode cX7_settle 8 = .ok (.getfield 23, 3) := by decide +kernel
theorem dX7_settle_11 : decode cX7_settle 11 = .ok (.aload_n 0, 1) := by decide +kernel
theorem dX7_settle_12 : decode cX7_settle 12 = .ok (.getfield 41, 3) := by decide +kernel
theorem dX7_settle_15 : decode cX7_settle 15 = .ok (.iconst 1, 1) := by decide +kernel
theorem dX7_settle_16 : decode cX7_settle 16 = .ok (.isub, 1) := by decide +kernel
theorem dX7_settle_17 : decode cX7_settle 17 = .ok (.iaload, 1) := by decide +kernel
theorem dX7_settle_18 : decode cX7_settle 18 = .ok (.invokestatic 99, 3) := by decide +kernel
theorem dX7_settle_21 : decode cX7_settle 21 = .ok (.iload_n 1, 1) := by decide +kernel
theorem dX7_settle_22 : decode cX7_settle 22 = .ok (.if_icmp .lt 33, 3) := by decide +kernel
theorem dX7_settle_25 : decode cX7_settle 25 = .ok (.aload_n 0, 1) := by decide +kernel
theorem dX7_settle_26 : decode cX7_settle 26 = .ok (.dup, 1) := by decide +kernel
theorem dX7_settle_27 : decode cX7_settle 27 = .ok (.getfield 41, 3) := by decide +kernel
theorem dX7_settle_30 : decode cX7_settle 30 = .ok (.iconst 1, 1) := by decide +kernel
theorem dX7_settle_31 : decode cX7_settle 31 = .ok (.isub, 1) := by decide +kernel
theorem dX7_settle_32 : decode cX7_settle 32 = .ok (.putfield 41, 3) := by decide +kernel
theorem dX7_settle_35 : decode cX7_settle 35 = .ok (.aload_n 0, 1) := by decide +kernel
theorem dX7_settle_36 : decode cX7_settle 36 = .ok (.sipush 2000, 3) := by decide +kernel
theorem dX7_settle_39 : decode cX7_settle 39 = .ok (.aload_n 0, 1) := by decide +kernel
theorem dX7_settle_40 : decode cX7_settle 40 = .ok (.getfield 23, 3) := by decide +kernel
theorem dX7_settle_43 : decode cX7_settle 43 = .ok (.aload_n 0, 1) := by decide +kernel
theorem dX7_settle_44 : decode cX7_settle 44 = .ok (.getfield 41, 3) := by decide +kernel
theorem dX7_settle_47 : decode cX7_settle 47 = .ok (.iaload, 1) := by decide +kernel
theorem dX7_settle_48 : decode cX7_settle 48 = .ok (.iadd, 1) := by decide +kernel
theorem dX7_settle_49 : decode cX7_settle 49 = .ok (.invokevirtual 90, 3) := by decide +kernel
theorem dX7_settle_52 : decode cX7_settle 52 = .ok (.goto (-52), 3) := by decide +kernel
theorem dX7_settle_55 : decode cX7_settle 55 = .ok (.return_, 1) := by decide +kernel
theorem dX7_readBehindThing_0 : decode cX7_readBehindThing 0 = .ok (.aload_n 1, 1) := by decide +kernel
theorem dX7_readBehindThing_1 : decode cX7_readBehindThing 1 = .ok (.invokevirtual 54, 3) := by decide +kernel
theorem dX7_readBehindThing_4 : decode cX7_readBehindThing 4 = .ok (.istore_n 2, 1) := by decide +kernel
theorem dX7_readBehindThing_5 : decode cX7_readBehindThing 5 = .ok (.iload_n 2, 1) := by decide +kernel
theorem dX7_readBehindThing_6 : decode cX7_readBehindThing 6 = .ok (.bipush 41, 2) := by decide +kernel
theorem dX7_readBehindThing_8 : decode cX7_readBehindThing 8 = .ok (.if_icmp .ne 47, 3) := by decide +kernel
theorem dX7_readBehindThing_11 : decode cX7_readBehindThing 11 = .ok (.aload_n 0, 1) := by decide +kernel
theorem dX7_readBehindThing_12 : decode cX7_readBehindThing 12 = .ok (.getfield 44, 3) := by decide +kernel
theorem dX7_readBehindThing_15 : decode cX7_readBehindThing 15 = .ok (.ifCond .ne 5, 3) := by decide +kernel
theorem dX7_readBehindThing_18 : decode cX7_readBehindThing 18 = .ok (.iconst 0, 1) := by decide +kernel
theorem dX7_readBehindThing_19 : decode cX7_readBehindThing 19 = .ok (.ireturn, 1) := by decide +kernel
theorem dX7_readBehindThing_20 : decode cX7_readBehindThing 20 = .ok (.aload_n 0, 1) := by decide +kernel
theorem dX7_readBehindThing_21 : decode cX7_readBehindThing 21 = .ok (.iconst 1, 1) := by decide +kernel
theorem dX7_readBehindThing_22 : decode cX7_readBehindThing 22 = .ok (.invokevirtual 70, 3) := by decide +kernel
theorem dX7_readBehindThing_25 : decode cX7_readBehindThing 25 = .ok (.aload_n 0, 1) := by decide +kernel
theorem dX7_readBehindThing_26 : decode cX7_readBehindThing 26 = .ok (.iconst 0, 1) := by decide +kernel
theorem dX7_readBehindThing_27 : decode cX7_readBehindThing 27 = .ok (.aload_n 0, 1) := by decide +kernel
theorem dX7_readBehindThing_28 : decode cX7_readBehindThing 28 = .ok (.getfield 41, 3) := by decide +kernel
theorem dX7_readBehindThing_31 : decode cX7_readBehindThing 31 = .ok (.iconst 1, 1) := by decide +kernel
theorem dX7_readBehindThing_32 : decode cX7_readBehindThing 32 = .ok (.isub, 1) := by decide +kernel
theorem dX7_readBehindThing_33 : decode cX7_readBehindThing 33 = .ok (.invokestatic 93, 3) := by decide +kernel
theorem dX7_readBehindThing_36 : decode cX7_readBehindThing 36 = .ok (.putfield 41, 3) := by decide +kernel
theorem dX7_readBehindThing_39 : decode cX7_readBehindThing 39 = .ok (.aload_n 0, 1) := by decide +kernel
theorem dX7_readBehindThing_40 : decode cX7_readBehindThing 40 = .ok (.dup, 1) := by decide +kernel
theorem dX7_readBehindThing_41 : decode cX7_readBehindThing 41 = .ok (.getfield 44, 3) := by decide +kernel
theorem dX7_readBehindThing_44 : decode cX7_readBehindThing 44 = .ok (.iconst 1, 1) := by decide +kernel
theorem dX7_readBehindThing_45 : decode cX7_readBehindThing 45 = .ok (.isub, 1) := by decide +kernel
theorem dX7_readBehindThing_46 : decode cX7_readBehindThing 46 = .ok (.putfield 44, 3) := by decide +kernel
theorem dX7_readBehindThing_49 : decode cX7_readBehindThing 49 = .ok (.aload_n 1, 1) := by decide +kernel
theorem dX7_readBehindThing_50 : decode cX7_readBehindThing 50 = .ok (.invokevirtual 80, 3) := by decide +kernel
theorem dX7_readBehindThing_53 : decode cX7_readBehindThing 53 = .ok (.iconst 1, 1) := by decide +kernel
theorem dX7_readBehindThing_54 : decode cX7_readBehindThing 54 = .ok (.ireturn, 1) := by decide +kernel
theorem dX7_readBehindThing_55 : decode cX7_readBehindThing 55 = .ok (.iload_n 2, 1) := by decide +kernel
theorem dX7_readBehindThing_56 : decode cX7_readBehindThing 56 = .ok (.invokestatic 99, 3) := by decide +kernel
theorem dX7_readBehindThing_59 : decode cX7_readBehindThing 59 = .ok (.istore_n 3, 1) := by decide +kernel
theorem dX7_readBehindThing_60 : decode cX7_readBehindThing 60 = .ok (.iload_n 3, 1) := by decide +kernel
theorem dX7_readBehindThing_61 : decode cX7_readBehindThing 61 = .ok (.ifCond .eq 22, 3) := by decide +kernel
theorem dX7_readBehindThing_64 : decode cX7_readBehindThing 64 = .ok (.iload_n 3, 1) := by decide +kernel
theorem dX7_readBehindThing_65 : decode cX7_readBehindThing 65 = .ok (.iconst 1, 1) := by decide +kernel
theorem dX7_readBehindThing_66 : decode cX7_readBehindThing 66 = .ok (.if_icmp .ne 19, 3) := by decide +kernel
theorem dX7_readBehindThing_69 : decode cX7_readBehindThing 69 = .ok (.aload_n 0, 1) := by decide +kernel
theorem dX7_readBehindThing_70 : decode cX7_readBehindThing 70 = .ok (.getfield 47, 3) := by decide +kernel
theorem dX7_readBehindThing_73 : decode cX7_readBehindThing 73 = .ok (.aload_n 0, 1) := by decide +kernel
theorem dX7_readBehindThing_74 : decode cX7_readBehindThing 74 = .ok (.getfield 44, 3) := by decide +kernel
theorem dX7_readBehindThing_77 : decode cX7_readBehindThing 77 = .ok (.ishr, 1) := by decide +kernel
theorem dX7_readBehindThing_78 : decode cX7_readBehindThing 78 = .ok (.iconst 1, 1) := by decide +kernel
theorem dX7_readBehindThing_79 : decode cX7_readBehindThing 79 = .ok (.iand, 1) := by decide +kernel
theorem dX7_readBehindThing_80 : decode cX7_readBehindThing 80 = .ok (.ifCond .eq 5, 3) := by decide +kernel
theorem dX7_readBehindThing_83 : decode cX7_readBehindThing 83 = .ok (.iconst 0, 1) := by decide +kernel
theorem dX7_readBehindThing_84 : decode cX7_readBehindThing 84 = .ok (.ireturn, 1) := by decide +kernel
theorem dX7_readBehindThing_85 : decode cX7_readBehindThing 85 = .ok (.iload_n 3, 1) := by decide +kernel
theorem dX7_readBehindThing_86 : decode cX7_readBehindThing 86 = .ok (.iconst 1, 1) := by decide +kernel
theorem dX7_readBehindThing_87 : decode cX7_readBehindThing 87 = .ok (.if_icmp .ne 18, 3) := by decide +kernel
theorem dX7_readBehindThing_90 : decode cX7_readBehindThing 90 = .ok (.aload_n 0, 1) := by decide +kernel
theorem dX7_readBehindThing_91 : decode cX7_readBehindThing 91 = .ok (.dup, 1) := by decide +kernel
theorem dX7_readBehindThing_92 : decode cX7_readBehindThing 92 = .ok (.getfield 47, 3) := by decide +kernel
theorem dX7_readBehindThing_95 : decode cX7_readBehindThing 95 = .ok (.iconst 1, 1) := by decide +kernel
theorem dX7_readBehindThing_96 : decode cX7_readBehindThing 96 = .ok (.aload_n 0, 1) := by decide +kernel
theorem dX7_readBehindThing_97 : decode cX7_readBehindThing 97 = .ok (.getfield 44, 3) := by decide +kernel
theorem dX7_readBehindThing_100 : decode cX7_readBehindThing 100 = .ok (.ishl, 1) := by decide +kernel
theorem dX7_readBehindThing_101 : decode cX7_readBehindThing 101 = .ok (.ior, 1) := by decide +kernel
theorem dX7_readBehindThing_102 : decode cX7_readBehindThing 102 = .ok (.putfield 47, 3) := by decide +kernel
theorem dX7_readBehindThing_105 : decode cX7_readBehindThing 105 = .ok (.aload_n 0, 1) := by decide +kernel
theorem dX7_readBehindThing_106 : decode cX7_readBehindThing 106 = .ok (.iload_n 3, 1) := by decide +kernel
theorem dX7_readBehindThing_107 : decode cX7_readBehindThing 107 = .ok (.invokevirtual 70, 3) := by decide +kernel
theorem dX7_readBehindThing_110 : decode cX7_readBehindThing 110 = .ok (.aload_n 0, 1) := by decide +kernel
theorem dX7_readBehindThing_111 : decode cX7_readBehindThing 111 = .ok (.iload_n 2, 1) := by decide +kernel
theorem dX7_readBehindThing_112 : decode cX7_readBehindThing 112 = .ok (.invokevirtual 74, 3) := by decide +kernel
theorem dX7_readBehindThing_115 : decode cX7_readBehindThing 115 = .ok (.aload_n 0, 1) := by decide +kernel
theorem dX7_readBehindThing_116 : decode cX7_readBehindThing 116 = .ok (.iconst 1, 1) := by decide +kernel
theorem dX7_readBehindThing_117 : decode cX7_readBehindThing 117 = .ok (.putfield 50, 3) := by decide +kernel
theorem dX7_readBehindThing_120 : decode cX7_readBehindThing 120 = .ok (.aload_n 1, 1) := by decide +kernel
theorem dX7_readBehindThing_121 : decode cX7_readBehindThing 121 = .ok (.invokevirtual 80, 3) := by decide +kernel
theorem dX7_readBehindThing_124 : decode cX7_readBehindThing 124 = .ok (.iconst 1, 1) := by decide +kernel
theorem dX7_readBehindThing_125 : decode cX7_readBehindThing 125 = .ok (.ireturn, 1) := by decide +kernel
theorem dX7_read_0 : decode cX7_read 0 = .ok (.aload_n 0, 1) := by decide +kernel
theorem dX7_read_1 : decode cX7_read 1 = .ok (.iconst 0, 1) := by decide +kernel
theorem dX7_read_2 : decode cX7_read 2 = .ok (.putfield 38, 3) := by decide +kernel
theorem dX7_read_5 : decode cX7_read 5 = .ok (.aload_n 0, 1) := by decide +kernel
theorem dX7_read_6 : decode cX7_read 6 = .ok (.iconst 0, 1) := by decide +kernel
theorem dX7_read_7 : decode cX7_read 7 = .ok (.putfield 41, 3) := by decide +kernel
theorem dX7_read_10 : decode cX7_read 10 = .ok (.aload_n 0, 1) := by decide +kernel
theorem dX7_read_11 : decode cX7_read 11 = .ok (.iconst 0, 1) := by decide +kernel
theorem dX7_read_12 : decode cX7_read 12 = .ok (.putfield 44, 3) := by decide +kernel
theorem dX7_read_15 : decode cX7_read 15 = .ok (.aload_n 0, 1) := by decide +kernel
theorem dX7_read_16 : decode cX7_read 16 = .ok (.iconst 0, 1) := by decide +kernel
theorem dX7_read_17 : decode cX7_read 17 = .ok (.putfield 47, 3) := by decide +kernel
theorem dX7_read_20 : decode cX7_read 20 = .ok (.aload_n 0, 1) := by decide +kernel
theorem dX7_read_21 : decode cX7_read 21 = .ok (.iconst 1, 1) := by decide +kernel
theorem dX7_read_22 : decode cX7_read 22 = .ok (.putfield 50, 3) := by decide +kernel
theorem dX7_read_25 : decode cX7_read 25 = .ok (.iconst 0, 1) := by decide +kernel
theorem dX7_read_26 : decode cX7_read 26 = .ok (.istore_n 2, 1) := by decide +kernel
theorem dX7_read_27 : decode cX7_read 27 = .ok (.iload_n 2, 1) := by decide +kernel
theorem dX7_read_28 : decode cX7_read 28 = .ok (.bipush 40, 2) := by decide +kernel
theorem dX7_read_30 : decode cX7_read 30 = .ok (.if_icmp .ge 45, 3) := by decide +kernel
theorem dX7_read_33 : decode cX7_read 33 = .ok (.aload_n 1, 1) := by decide +kernel
theorem dX7_read_34 : decode cX7_read 34 = .ok (.invokevirtual 54, 3) := by decide +kernel
theorem dX7_read_37 : decode cX7_read 37 = .ok (.iconst (-1), 1) := by decide +kernel
theorem dX7_read_38 : decode cX7_read 38 = .ok (.if_icmp .eq 37, 3) := by decide +kernel
theorem dX7_read_41 : decode cX7_read 41 = .ok (.aload_n 0, 1) := by decide +kernel
theorem dX7_read_42 : decode cX7_read 42 = .ok (.getfield 50, 3) := by decide +kernel
theorem dX7_read_45 : decode cX7_read 45 = .ok (.ifCond .eq 14, 3) := by decide +kernel
theorem dX7_read_48 : decode cX7_read 48 = .ok (.aload_n 0, 1) := by decide +kernel
theorem dX7_read_49 : decode cX7_read 49 = .ok (.aload_n 1, 1) := by decide +kernel
theorem dX7_read_50 : decode cX7_read 50 = .ok (.invokevirtual 59, 3) := by decide +kernel
theorem dX7_read_53 : decode cX7_read 53 = .ok (.ifCond .eq 14, 3) := by decide +kernel
theorem dX7_read_56 : decode cX7_read 56 = .ok (.goto 13, 3) := by decide +kernel
theorem dX7_read_59 : decode cX7_read 59 = .ok (.aload_n 0, 1) := by decide +kernel
theorem dX7_read_60 : decode cX7_read 60 = .ok (.aload_n 1, 1) := by decide +kernel
theorem dX7_read_61 : decode cX7_read 61 = .ok (.invokevirtual 63, 3) := by decide +kernel
theorem dX7_read_64 : decode cX7_read 64 = .ok (.ifCond .ne 5, 3) := by decide +kernel
theorem dX7_read_67 : decode cX7_read 67 = .ok (.iconst 0, 1) := by decide +kernel
theorem dX7_read_68 : decode cX7_read 68 = .ok (.ireturn, 1) := by decide +kernel
theorem dX7_read_69 : decode cX7_read 69 = .ok (.iinc 2 1, 3) := by decide +kernel
theorem dX7_read_72 : decode cX7_read 72 = .ok (.goto (-45), 3) := by decide +kernel
theorem dX7_read_75 : decode cX7_read 75 = .ok (.aload_n 0, 1) := by decide +kernel
theorem dX7_read_76 : decode cX7_read 76 = .ok (.getfield 50, 3) := by decide +kernel
theorem dX7_read_79 : decode cX7_read 79 = .ok (.ifCond .ne 17, 3) := by decide +kernel
theorem dX7_read_82 : decode cX7_read 82 = .ok (.aload_n 0, 1) := by decide +kernel
theorem dX7_read_83 : decode cX7_read 83 = .ok (.getfield 44, 3) := by decide +kernel
theorem dX7_read_86 : decode cX7_read 86 = .ok (.ifCond .gt 10, 3) := by decide +kernel
theorem dX7_read_89 : decode cX7_read 89 = .ok (.aload_n 1, 1) := by decide +kernel
theorem dX7_read_90 : decode cX7_read 90 = .ok (.invokevirtual 66, 3) := by decide +kernel
theorem dX7_read_93 : decode cX7_read 93 = .ok (.ifCond .ne 5, 3) := by decide +kernel
theorem dX7_read_96 : decode cX7_read 96 = .ok (.iconst 0, 1) := by decide +kernel
theorem dX7_read_97 : decode cX7_read 97 = .ok (.ireturn, 1) := by decide +kernel
theorem dX7_read_98 : decode cX7_read 98 = .ok (.aload_n 0, 1) := by decide +kernel
theorem dX7_read_99 : decode cX7_read 99 = .ok (.iconst 1, 1) := by decide +kernel
theorem dX7_read_100 : decode cX7_read 100 = .ok (.invokevirtual 70, 3) := by decide +kernel
theorem dX7_read_103 : decode cX7_read 103 = .ok (.aload_n 0, 1) := by decide +kernel
theorem dX7_read_104 : decode cX7_read 104 = .ok (.getfield 29, 3) := by decide +kernel
theorem dX7_read_107 : decode cX7_read 107 = .ok (.astore_n 2, 1) := by decide +kernel
theorem dX7_read_108 : decode cX7_read 108 = .ok (.aload_n 0, 1) := by decide +kernel
theorem dX7_read_109 : decode cX7_read 109 = .ok (.aload_n 0, 1) := by decide +kernel
theorem dX7_read_110 : decode cX7_read 110 = .ok (.getfield 32, 3) := by decide +kernel
theorem dX7_read_113 : decode cX7_read 113 = .ok (.putfield 29, 3) := by decide +kernel
theorem dX7_read_116 : decode cX7_read 116 = .ok (.aload_n 0, 1) := by decide +kernel
theorem dX7_read_117 : decode cX7_read 117 = .ok (.aload_n 2, 1) := by decide +kernel
theorem dX7_read_118 : decode cX7_read 118 = .ok (.putfield 32, 3) := by decide +kernel
theorem dX7_read_121 : decode cX7_read 121 = .ok (.aload_n 0, 1) := by decide +kernel
theorem dX7_read_122 : decode cX7_read 122 = .ok (.aload_n 0, 1) := by decide +kernel
theorem dX7_read_123 : decode cX7_read 123 = .ok (.getfield 38, 3) := by decide +kernel
theorem dX7_read_126 : decode cX7_read 126 = .ok (.putfield 35, 3) := by decide +kernel
theorem dX7_read_129 : decode cX7_read 129 = .ok (.iconst 1, 1) := by decide +kernel
theorem dX7_read_130 : decode cX7_read 130 = .ok (.ireturn, 1) := by decide +kernel
theorem dX9_rule_0 : decode cX9_rule 0 = .ok (.aload_n 0, 1) := by decide +kernel
theorem dX9_rule_1 : decode cX9_rule 1 = .ok (.getfield 10, 3) := by decide +kernel
theorem dX9_rule_4 : decode cX9_rule 4 = .ok (.bipush 40, 2) := by decide +kernel
theorem dX9_rule_6 : decode cX9_rule 6 = .ok (.invokevirtual 73, 3) := by decide +kernel
theorem dX9_rule_9 : decode cX9_rule 9 = .ok (.iconst 0, 1) := by decide +kernel
theorem dX9_rule_10 : decode cX9_rule 10 = .ok (.istore_n 1, 1) := by decide +kernel
theorem dX9_rule_11 : decode cX9_rule 11 = .ok (.aload_n 0, 1) := by decide +kernel
theorem dX9_rule_12 : decode cX9_rule 12 = .ok (.getfield 10, 3) := by decide +kernel
theorem dX9_rule_15 : decode cX9_rule 15 = .ok (.getfield 77, 3) := by decide +kernel
theorem dX9_rule_18 : decode cX9_rule 18 = .ok (.ifCond .ne 16, 3) := by decide +kernel
theorem dX9_rule_21 : decode cX9_rule 21 = .ok (.aload_n 0, 1) := by decide +kernel
theorem dX9_rule_22 : decode cX9_rule 22 = .ok (.getfield 27, 3) := by decide +kernel
theorem dX9_rule_25 : decode cX9_rule 25 = .ok (.getfield 104, 3) := by decide +kernel
theorem dX9_rule_28 : decode cX9_rule 28 = .ok (.invokevirtual 108, 3) := by decide +kernel
theorem dX9_rule_31 : decode cX9_rule 31 = .ok (.goto 28, 3) := by decide +kernel
theorem dX9_rule_34 : decode cX9_rule 34 = .ok (.aload_n 0, 1) := by decide +kernel
theorem dX9_rule_35 : decode cX9_rule 35 = .ok (.getfield 27, 3) := by decide +kernel
theorem dX9_rule_38 : decode cX9_rule 38 = .ok (.getfield 104, 3) := by decide +kernel
theorem dX9_rule_41 : decode cX9_rule 41 = .ok (.aload_n 0, 1) := by decide +kernel
theorem dX9_rule_42 : decode cX9_rule 42 = .ok (.getfield 10, 3) := by decide +kernel
theorem dX9_rule_45 : decode cX9_rule 45 = .ok (.invokevirtual 113, 3) := by decide +kernel
theorem dX9_rule_48 : decode cX9_rule 48 = .ok (.ifCond .ne 11, 3) := by decide +kernel
theorem dX9_rule_51 : decode cX9_rule 51 = .ok (.aload_n 0, 1) := by decide +kernel
theorem dX9_rule_52 : decode cX9_rule 52 = .ok (.getfield 10, 3) := by decide +kernel
theorem dX9_rule_55 : decode cX9_rule 55 = .ok (.invokevirtual 91, 3) := by decide +kernel
theorem dX9_rule_58 : decode cX9_rule 58 = .ok (.istore_n 1, 1) := by decide +kernel
theorem dX9_rule_59 : decode cX9_rule 59 = .ok (.aload_n 0, 1) := by decide +kernel
theorem dX9_rule_60 : decode cX9_rule 60 = .ok (.getfield 10, 3) := by decide +kernel
theorem dX9_rule_63 : decode cX9_rule 63 = .ok (.invokevirtual 101, 3) := by decide +kernel
theorem dX9_rule_66 : decode cX9_rule 66 = .ok (.iload_n 1, 1) := by decide +kernel
theorem dX9_rule_67 : decode cX9_rule 67 = .ok (.ireturn, 1) := by decide +kernel
theorem dX3_hasFruit_0 : decode cX3_hasFruit 0 = .ok (.iload_n 1, 1) := by decide +kernel
theorem dX3_hasFruit_1 : decode cX3_hasFruit 1 = .ok (.ifCond .lt 15, 3) := by decide +kernel
theorem dX3_hasFruit_4 : decode cX3_hasFruit 4 = .ok (.iload_n 1, 1) := by decide +kernel
theorem dX3_hasFruit_5 : decode cX3_hasFruit 5 = .ok (.aload_n 0, 1) := by decide +kernel
theorem dX3_hasFruit_6 : decode cX3_hasFruit 6 = .ok (.getfield 33, 3) := by decide +kernel
theorem dX3_hasFruit_9 : decode cX3_hasFruit 9 = .ok (.if_icmp .ge 7, 3) := by decide +kernel
theorem dX3_hasFruit_12 : decode cX3_hasFruit 12 = .ok (.iconst 1, 1) := by decide +kernel
theorem dX3_hasFruit_13 : decode cX3_hasFruit 13 = .ok (.goto 4, 3) := by decide +kernel
theorem dX3_hasFruit_16 : decode cX3_hasFruit 16 = .ok (.iconst 0, 1) := by decide +kernel
theorem dX3_hasFruit_17 : decode cX3_hasFruit 17 = .ok (.ireturn, 1) := by decide +kernel
theorem dX3_allFruits_0 : decode cX3_allFruits 0 = .ok (.iconst 1, 1) := by decide +kernel
theorem dX3_allFruits_1 : decode cX3_allFruits 1 = .ok (.aload_n 0, 1) := by decide +kernel
theorem dX3_allFruits_2 : decode cX3_allFruits 2 = .ok (.getfield 33, 3) := by decide +kernel
theorem dX3_allFruits_5 : decode cX3_allFruits 5 = .ok (.ishl, 1) := by decide +kernel
theorem dX3_allFruits_6 : decode cX3_allFruits 6 = .ok (.iconst 1, 1) := by decide +kernel
theorem dX3_allFruits_7 : decode cX3_allFruits 7 = .ok (.isub, 1) := by decide +kernel
theorem dX3_allFruits_8 : decode cX3_allFruits 8 = .ok (.ireturn, 1) := by decide +kernel
theorem dX0_hanging_0 : decode cX0_hanging 0 = .ok (.aload_n 0, 1) := by decide +kernel
theorem dX0_hanging_1 : decode cX0_hanging 1 = .ok (.getfield 12, 3) := by decide +kernel
theorem dX0_hanging_4 : decode cX0_hanging 4 = .ok (.invokevirtual 32, 3) := by decide +kernel
theorem dX0_hanging_7 : decode cX0_hanging 7 = .ok (.aload_n 0, 1) := by decide +kernel
theorem dX0_hanging_8 : decode cX0_hanging 8 = .ok (.getfield 21, 3) := by decide +kernel
theorem dX0_hanging_11 : decode cX0_hanging 11 = .ok (.getfield 36, 3) := by decide +kernel
theorem dX0_hanging_14 : decode cX0_hanging 14 = .ok (.aload_n 0, 1) := by decide +kernel
theorem dX0_hanging_15 : decode cX0_hanging 15 = .ok (.getfield 21, 3) := by decide +kernel
theorem dX0_hanging_18 : decode cX0_hanging 18 = .ok (.getfield 40, 3) := by decide +kernel
theorem dX0_hanging_21 : decode cX0_hanging 21 = .ok (.ior, 1) := by decide +kernel
theorem dX0_hanging_22 : decode cX0_hanging 22 = .ok (.aload_n 0, 1) := by decide +kernel
theorem dX0_hanging_23 : decode cX0_hanging 23 = .ok (.getfield 21, 3) := by decide +kernel
theorem dX0_hanging_26 : decode cX0_hanging 26 = .ok (.getfield 43, 3) := by decide +kernel
theorem dX0_hanging_29 : decode cX0_hanging 29 = .ok (.ior, 1) := by decide +kernel
theorem dX0_hanging_30 : decode cX0_hanging 30 = .ok (.iconst (-1), 1) := by decide +kernel
theorem dX0_hanging_31 : decode cX0_hanging 31 = .ok (.ixor, 1) := by decide +kernel
theorem dX0_hanging_32 : decode cX0_hanging 32 = .ok (.iand, 1) := by decide +kernel
theorem dX0_hanging_33 : decode cX0_hanging 33 = .ok (.ireturn, 1) := by decide +kernel
theorem dX3_lowerThan_0 : decode cX3_lowerThan 0 = .ok (.iload_n 2, 1) := by decide +kernel
theorem dX3_lowerThan_1 : decode cX3_lowerThan 1 = .ok (.iload_n 1, 1) := by decide +kernel
theorem dX3_lowerThan_2 : decode cX3_lowerThan 2 = .ok (.ishr, 1) := by decide +kernel
theorem dX3_lowerThan_3 : decode cX3_lowerThan 3 = .ok (.iconst 1, 1) := by decide +kernel
theorem dX3_lowerThan_4 : decode cX3_lowerThan 4 = .ok (.iand, 1) := by decide +kernel
theorem dX3_lowerThan_5 : decode cX3_lowerThan 5 = .ok (.ifCond .ne 5, 3) := by decide +kernel
theorem dX3_lowerThan_8 : decode cX3_lowerThan 8 = .ok (.iconst 0, 1) := by decide +kernel
theorem dX3_lowerThan_9 : decode cX3_lowerThan 9 = .ok (.ireturn, 1) := by decide +kernel
theorem dX3_lowerThan_10 : decode cX3_lowerThan 10 = .ok (.iconst 0, 1) := by decide +kernel
theorem dX3_lowerThan_11 : decode cX3_lowerThan 11 = .ok (.istore_n 3, 1) := by decide +kernel
theorem dX3_lowerThan_12 : decode cX3_lowerThan 12 = .ok (.iconst 0, 1) := by decide +kernel
theorem dX3_lowerThan_13 : decode cX3_lowerThan 13 = .ok (.istore 4, 2) := by decide +kernel
theorem dX3_lowerThan_15 : decode cX3_lowerThan 15 = .ok (.iload 4, 2) := by decide +kernel
theorem dX3_lowerThan_17 : decode cX3_lowerThan 17 = .ok (.aload_n 0, 1) := by decide +kernel
theorem dX3_lowerThan_18 : decode cX3_lowerThan 18 = .ok (.getfield 33, 3) := by decide +kernel
theorem dX3_lowerThan_21 : decode cX3_lowerThan 21 = .ok (.if_icmp .ge 74, 3) := by decide +kernel
theorem dX3_lowerThan_24 : decode cX3_lowerThan 24 = .ok (.aload_n 0, 1) := by decide +kernel
theorem dX3_lowerThan_25 : decode cX3_lowerThan 25 = .ok (.getfield 9, 3) := by decide +kernel
theorem dX3_lowerThan_28 : decode cX3_lowerThan 28 = .ok (.iload 4, 2) := by decide +kernel
theorem dX3_lowerThan_30 : decode cX3_lowerThan 30 = .ok (.iaload, 1) := by decide +kernel
theorem dX3_lowerThan_31 : decode cX3_lowerThan 31 = .ok (.aload_n 0, 1) := by decide +kernel
theorem dX3_lowerThan_32 : decode cX3_lowerThan 32 = .ok (.getfield 9, 3) := by decide +kernel
theorem dX3_lowerThan_35 : decode cX3_lowerThan 35 = .ok (.iload_n 1, 1) := by decide +kernel
theorem dX3_lowerThan_36 : decode cX3_lowerThan 36 = .ok (.iaload, 1) := by decide +kernel
theorem dX3_lowerThan_37 : decode cX3_lowerThan 37 = .ok (.isub, 1) := by decide +kernel
theorem dX3_lowerThan_38 : decode cX3_lowerThan 38 = .ok (.invokestatic 89, 3) := by decide +kernel
theorem dX3_lowerThan_41 : decode cX3_lowerThan 41 = .ok (.iconst 1, 1) := by decide +kernel
theorem dX3_lowerThan_42 : decode cX3_lowerThan 42 = .ok (.if_icmp .gt 23, 3) := by decide +kernel
theorem dX3_lowerThan_45 : decode cX3_lowerThan 45 = .ok (.aload_n 0, 1) := by decide +kernel
theorem dX3_lowerThan_46 : decode cX3_lowerThan 46 = .ok (.getfield 15, 3) := by decide +kernel
theorem dX3_lowerThan_49 : decode cX3_lowerThan 49 = .ok (.iload 4, 2) := by decide +kernel
theorem dX3_lowerThan_51 : decode cX3_lowerThan 51 = .ok (.iaload, 1) := by decide +kernel
theorem dX3_lowerThan_52 : decode cX3_lowerThan 52 = .ok (.aload_n 0, 1) := by decide +kernel
theorem dX3_lowerThan_53 : decode cX3_lowerThan 53 = .ok (.getfield 15, 3) := by decide +kernel
theorem dX3_lowerThan_56 : decode cX3_lowerThan 56 = .ok (.iload_n 1, 1) := by decide +kernel
theorem dX3_lowerThan_57 : decode cX3_lowerThan 57 = .ok (.iaload, 1) := by decide +kernel
theorem dX3_lowerThan_58 : decode cX3_lowerThan 58 = .ok (.if_icmp .ge 7, 3) := by decide +kernel
theorem dX3_lowerThan_61 : decode cX3_lowerThan 61 = .ok (.iconst 1, 1) := by decide +kernel
theorem dX3_lowerThan_62 : decode cX3_lowerThan 62 = .ok (.goto 4, 3) := by decide +kernel
theorem dX3_lowerThan_65 : decode cX3_lowerThan 65 = .ok (.iconst 0, 1) := by decide +kernel
theorem dX3_lowerThan_66 : decode cX3_lowerThan 66 = .ok (.istore 5, 2) := by decide +kernel
theorem dX3_lowerThan_68 : decode cX3_lowerThan 68 = .ok (.iload 5, 2) := by decide +kernel
theorem dX3_lowerThan_70 : decode cX3_lowerThan 70 = .ok (.ifCond .eq 19, 3) := by decide +kernel
theorem dX3_lowerThan_73 : decode cX3_lowerThan 73 = .ok (.iload_n 2, 1) := by decide +kernel
theorem dX3_lowerThan_74 : decode cX3_lowerThan 74 = .ok (.iload 4, 2) := by decide +kernel
theorem dX3_lowerThan_76 : decode cX3_lowerThan 76 = .ok (.ishr, 1) := by decide +kernel
theorem dX3_lowerThan_77 : decode cX3_lowerThan 77 = .ok (.iconst 1, 1) := by decide +kernel
theorem dX3_lowerThan_78 : decode cX3_lowerThan 78 = .ok (.iand, 1) := by decide +kernel
theorem dX3_lowerThan_79 : decode cX3_lowerThan 79 = .ok (.ifCond .eq 10, 3) := by decide +kernel
theorem dX3_lowerThan_82 : decode cX3_lowerThan 82 = .ok (.iload_n 3, 1) := by decide +kernel
theorem dX3_lowerThan_83 : decode cX3_lowerThan 83 = .ok (.iconst 1, 1) := by decide +kernel
theorem dX3_lowerThan_84 : decode cX3_lowerThan 84 = .ok (.iload 4, 2) := by decide +kernel
theorem dX3_lowerThan_86 : decode cX3_lowerThan 86 = .ok (.ishl, 1) := by decide +kernel
theorem dX3_lowerThan_87 : decode cX3_lowerThan 87 = .ok (.ior, 1) := by decide +kernel
theorem dX3_lowerThan_88 : decode cX3_lowerThan 88 = .ok (.istore_n 3, 1) := by decide +kernel
theorem dX3_lowerThan_89 : decode cX3_lowerThan 89 = .ok (.iinc 4 1, 3) := by decide +kernel
theorem dX3_lowerThan_92 : decode cX3_lowerThan 92 = .ok (.goto (-77), 3) := by decide +kernel
theorem dX3_lowerThan_95 : decode cX3_lowerThan 95 = .ok (.iload_n 3, 1) := by decide +kernel
theorem dX3_lowerThan_96 : decode cX3_lowerThan 96 = .ok (.ireturn, 1) := by decide +kernel
theorem dX2_whereIs_0 : decode cX2_whereIs 0 = .ok (.aload_n 0, 1) := by decide +kernel
theorem dX2_whereIs_1 : decode cX2_whereIs 1 = .ok (.getfield 15, 3) := by decide +kernel
theorem dX2_whereIs_4 : decode cX2_whereIs 4 = .ok (.iload_n 1, 1) := by decide +kernel
theorem dX2_whereIs_5 : decode cX2_whereIs 5 = .ok (.ishr, 1) := by decide +kernel
theorem dX2_whereIs_6 : decode cX2_whereIs 6 = .ok (.iconst 1, 1) := by decide +kernel
theorem dX2_whereIs_7 : decode cX2_whereIs 7 = .ok (.iand, 1) := by decide +kernel
theorem dX2_whereIs_8 : decode cX2_whereIs 8 = .ok (.iconst 2, 1) := by decide +kernel
theorem dX2_whereIs_9 : decode cX2_whereIs 9 = .ok (.aload_n 0, 1) := by decide +kernel
theorem dX2_whereIs_10 : decode cX2_whereIs 10 = .ok (.getfield 18, 3) := by decide +kernel
theorem dX2_whereIs_13 : decode cX2_whereIs 13 = .ok (.iload_n 1, 1) := by decide +kernel
theorem dX2_whereIs_14 : decode cX2_whereIs 14 = .ok (.ishr, 1) := by decide +kernel
theorem dX2_whereIs_15 : decode cX2_whereIs 15 = .ok (.iconst 1, 1) := by decide +kernel
theorem dX2_whereIs_16 : decode cX2_whereIs 16 = .ok (.iand, 1) := by decide +kernel
theorem dX2_whereIs_17 : decode cX2_whereIs 17 = .ok (.imul, 1) := by decide +kernel
theorem dX2_whereIs_18 : decode cX2_whereIs 18 = .ok (.iadd, 1) := by decide +kernel
theorem dX2_whereIs_19 : decode cX2_whereIs 19 = .ok (.iconst 3, 1) := by decide +kernel
theorem dX2_whereIs_20 : decode cX2_whereIs 20 = .ok (.aload_n 0, 1) := by decide +kernel
theorem dX2_whereIs_21 : decode cX2_whereIs 21 = .ok (.getfield 21, 3) := by decide +kernel
theorem dX2_whereIs_24 : decode cX2_whereIs 24 = .ok (.iload_n 1, 1) := by decide +kernel
theorem dX2_whereIs_25 : decode cX2_whereIs 25 = .ok (.ishr, 1) := by decide +kernel
theorem dX2_whereIs_26 : decode cX2_whereIs 26 = .ok (.iconst 1, 1) := by decide +kernel
theorem dX2_whereIs_27 : decode cX2_whereIs 27 = .ok (.iand, 1) := by decide +kernel
theorem dX2_whereIs_28 : decode cX2_whereIs 28 = .ok (.imul, 1) := by decide +kernel
theorem dX2_whereIs_29 : decode cX2_whereIs 29 = .ok (.iadd, 1) := by decide +kernel
theorem dX2_whereIs_30 : decode cX2_whereIs 30 = .ok (.ireturn, 1) := by decide +kernel
theorem dX9_fruit_0 : decode cX9_fruit 0 = .ok (.aload_n 0, 1) := by decide +kernel
theorem dX9_fruit_1 : decode cX9_fruit 1 = .ok (.getfield 34, 3) := by decide +kernel
theorem dX9_fruit_4 : decode cX9_fruit 4 = .ok (.iload_n 1, 1) := by decide +kernel
theorem dX9_fruit_5 : decode cX9_fruit 5 = .ok (.invokevirtual 117, 3) := by decide +kernel
theorem dX9_fruit_8 : decode cX9_fruit 8 = .ok (.ifCond .ne 11, 3) := by decide +kernel
theorem dX9_fruit_11 : decode cX9_fruit 11 = .ok (.new 120, 3) := by decide +kernel
theorem dX9_fruit_14 : decode cX9_fruit 14 = .ok (.dup, 1) := by decide +kernel
theorem dX9_fruit_15 : decode cX9_fruit 15 = .ok (.invokespecial 122, 3) := by decide +kernel
theorem dX9_fruit_18 : decode cX9_fruit 18 = .ok (.athrow, 1) := by decide +kernel
theorem dX9_fruit_19 : decode cX9_fruit 19 = .ok (.iload_n 2, 1) := by decide +kernel
theorem dX9_fruit_20 : decode cX9_fruit 20 = .ok (.tableswitch 121 0 6 #[44, 54, 64, 74, 84, 93, 105], 44) := by decide +kernel
theorem dX9_fruit_64 : decode cX9_fruit 64 = .ok (.aload_n 0, 1) := by decide +kernel
theorem dX9_fruit_65 : decode cX9_fruit 65 = .ok (.getfield 34, 3) := by decide +kernel
theorem dX9_fruit_68 : decode cX9_fruit 68 = .ok (.getfield 123, 3) := by decide +kernel
theorem dX9_fruit_71 : decode cX9_fruit 71 = .ok (.iload_n 1, 1) := by decide +kernel
theorem dX9_fruit_72 : decode cX9_fruit 72 = .ok (.iaload, 1) := by decide +kernel
theorem dX9_fruit_73 : decode cX9_fruit 73 = .ok (.ireturn, 1) := by decide +kernel
theorem dX9_fruit_74 : decode cX9_fruit 74 = .ok (.aload_n 0, 1) := by decide +kernel
theorem dX9_fruit_75 : decode cX9_fruit 75 = .ok (.getfield 34, 3) := by decide +kernel
theorem dX9_fruit_78 : decode cX9_fruit 78 = .ok (.getfield 126, 3) := by decide +kernel
theorem dX9_fruit_81 : decode cX9_fruit 81 = .ok (.iload_n 1, 1) := by decide +kernel
theorem dX9_fruit_82 : decode cX9_fruit 82 = .ok (.iaload, 1) := by decide +kernel
theorem dX9_fruit_83 : decode cX9_fruit 83 = .ok (.ireturn, 1) := by decide +kernel
theorem dX9_fruit_84 : decode cX9_fruit 84 = .ok (.aload_n 0, 1) := by decide +kernel
theorem dX9_fruit_85 : decode cX9_fruit 85 = .ok (.getfield 34, 3) := by decide +kernel
theorem dX9_fruit_88 : decode cX9_fruit 88 = .ok (.getfield 129, 3) := by decide +kernel
theorem dX9_fruit_91 : decode cX9_fruit 91 = .ok (.iload_n 1, 1) := by decide +kernel
theorem dX9_fruit_92 : decode cX9_fruit 92 = .ok (.iaload, 1) := by decide +kernel
theorem dX9_fruit_93 : decode cX9_fruit 93 = .ok (.ireturn, 1) := by decide +kernel
theorem dX9_fruit_94 : decode cX9_fruit 94 = .ok (.aload_n 0, 1) := by decide +kernel
theorem dX9_fruit_95 : decode cX9_fruit 95 = .ok (.getfield 34, 3) := by decide +kernel
theorem dX9_fruit_98 : decode cX9_fruit 98 = .ok (.getfield 132, 3) := by decide +kernel
theorem dX9_fruit_101 : decode cX9_fruit 101 = .ok (.iload_n 1, 1) := by decide +kernel
theorem dX9_fruit_102 : decode cX9_fruit 102 = .ok (.iaload, 1) := by decide +kernel
theorem dX9_fruit_103 : decode cX9_fruit 103 = .ok (.ireturn, 1) := by decide +kernel
theorem dX9_fruit_104 : decode cX9_fruit 104 = .ok (.aload_n 0, 1) := by decide +kernel
theorem dX9_fruit_105 : decode cX9_fruit 105 = .ok (.getfield 39, 3) := by decide +kernel
theorem dX9_fruit_108 : decode cX9_fruit 108 = .ok (.iload_n 1, 1) := by decide +kernel
theorem dX9_fruit_109 : decode cX9_fruit 109 = .ok (.invokevirtual 135, 3) := by decide +kernel
theorem dX9_fruit_112 : decode cX9_fruit 112 = .ok (.ireturn, 1) := by decide +kernel
theorem dX9_fruit_113 : decode cX9_fruit 113 = .ok (.aload_n 0, 1) := by decide +kernel
theorem dX9_fruit_114 : decode cX9_fruit 114 = .ok (.getfield 39, 3) := by decide +kernel
theorem dX9_fruit_117 : decode cX9_fruit 117 = .ok (.getfield 140, 3) := by decide +kernel
theorem dX9_fruit_120 : decode cX9_fruit 120 = .ok (.iload_n 1, 1) := by decide +kernel
theorem dX9_fruit_121 : decode cX9_fruit 121 = .ok (.ishr, 1) := by decide +kernel
theorem dX9_fruit_122 : decode cX9_fruit 122 = .ok (.iconst 1, 1) := by decide +kernel
theorem dX9_fruit_123 : decode cX9_fruit 123 = .ok (.iand, 1) := by decide +kernel
theorem dX9_fruit_124 : decode cX9_fruit 124 = .ok (.ireturn, 1) := by decide +kernel
theorem dX9_fruit_125 : decode cX9_fruit 125 = .ok (.aload_n 0, 1) := by decide +kernel
theorem dX9_fruit_126 : decode cX9_fruit 126 = .ok (.getfield 34, 3) := by decide +kernel
theorem dX9_fruit_129 : decode cX9_fruit 129 = .ok (.iload_n 1, 1) := by decide +kernel
theorem dX9_fruit_130 : decode cX9_fruit 130 = .ok (.aload_n 0, 1) := by decide +kernel
theorem dX9_fruit_131 : decode cX9_fruit 131 = .ok (.getfield 27, 3) := by decide +kernel
theorem dX9_fruit_134 : decode cX9_fruit 134 = .ok (.invokevirtual 143, 3) := by decide +kernel
theorem dX9_fruit_137 : decode cX9_fruit 137 = .ok (.invokevirtual 146, 3) := by decide +kernel
theorem dX9_fruit_140 : decode cX9_fruit 140 = .ok (.ireturn, 1) := by decide +kernel
