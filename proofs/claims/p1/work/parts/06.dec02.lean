theorem dX3_aside_20 : decode cX3_aside 20 = .ok (.iaload, 1) := by decide +kernel
theorem dX3_aside_21 : decode cX3_aside 21 = .ok (.aload_n 0, 1) := by decide +kernel
theorem dX3_aside_22 : decode cX3_aside 22 = .ok (.getfield 24, 3) := by decide +kernel
theorem dX3_aside_25 : decode cX3_aside 25 = .ok (.iload_n 2, 1) := by decide +kernel
theorem dX3_aside_26 : decode cX3_aside 26 = .ok (.iaload, 1) := by decide +kernel
theorem dX3_aside_27 : decode cX3_aside 27 = .ok (.isub, 1) := by decide +kernel
theorem dX3_aside_28 : decode cX3_aside 28 = .ok (.goto 16, 3) := by decide +kernel
theorem dX3_aside_31 : decode cX3_aside 31 = .ok (.aload_n 0, 1) := by decide +kernel
theorem dX3_aside_32 : decode cX3_aside 32 = .ok (.getfield 24, 3) := by decide +kernel
theorem dX3_aside_35 : decode cX3_aside 35 = .ok (.iload_n 2, 1) := by decide +kernel
theorem dX3_aside_36 : decode cX3_aside 36 = .ok (.iaload, 1) := by decide +kernel
theorem dX3_aside_37 : decode cX3_aside 37 = .ok (.aload_n 0, 1) := by decide +kernel
theorem dX3_aside_38 : decode cX3_aside 38 = .ok (.getfield 9, 3) := by decide +kernel
theorem dX3_aside_41 : decode cX3_aside 41 = .ok (.iload_n 1, 1) := by decide +kernel
theorem dX3_aside_42 : decode cX3_aside 42 = .ok (.iaload, 1) := by decide +kernel
theorem dX3_aside_43 : decode cX3_aside 43 = .ok (.isub, 1) := by decide +kernel
theorem dX3_aside_44 : decode cX3_aside 44 = .ok (.ireturn, 1) := by decide +kernel
theorem dX3_above_0 : decode cX3_above 0 = .ok (.aload_n 0, 1) := by decide +kernel
theorem dX3_above_1 : decode cX3_above 1 = .ok (.getfield 15, 3) := by decide +kernel
theorem dX3_above_4 : decode cX3_above 4 = .ok (.iload_n 1, 1) := by decide +kernel
theorem dX3_above_5 : decode cX3_above 5 = .ok (.iaload, 1) := by decide +kernel
theorem dX3_above_6 : decode cX3_above 6 = .ok (.aload_n 0, 1) := by decide +kernel
theorem dX3_above_7 : decode cX3_above 7 = .ok (.getfield 27, 3) := by decide +kernel
theorem dX3_above_10 : decode cX3_above 10 = .ok (.iload_n 2, 1) := by decide +kernel
theorem dX3_above_11 : decode cX3_above 11 = .ok (.iaload, 1) := by decide +kernel
theorem dX3_above_12 : decode cX3_above 12 = .ok (.if_icmp .le 19, 3) := by decide +kernel
theorem dX3_above_15 : decode cX3_above 15 = .ok (.aload_n 0, 1) := by decide +kernel
theorem dX3_above_16 : decode cX3_above 16 = .ok (.getfield 15, 3) := by decide +kernel
theorem dX3_above_19 : decode cX3_above 19 = .ok (.iload_n 1, 1) := by decide +kernel
theorem dX3_above_20 : decode cX3_above 20 = .ok (.iaload, 1) := by decide +kernel
theorem dX3_above_21 : decode cX3_above 21 = .ok (.aload_n 0, 1) := by decide +kernel
theorem dX3_above_22 : decode cX3_above 22 = .ok (.getfield 27, 3) := by decide +kernel
theorem dX3_above_25 : decode cX3_above 25 = .ok (.iload_n 2, 1) := by decide +kernel
theorem dX3_above_26 : decode cX3_above 26 = .ok (.iaload, 1) := by decide +kernel
theorem dX3_above_27 : decode cX3_above 27 = .ok (.isub, 1) := by decide +kernel
theorem dX3_above_28 : decode cX3_above 28 = .ok (.goto 4, 3) := by decide +kernel
theorem dX3_above_31 : decode cX3_above 31 = .ok (.iconst 0, 1) := by decide +kernel
theorem dX3_above_32 : decode cX3_above 32 = .ok (.ireturn, 1) := by decide +kernel
theorem dX3_isWithin_0 : decode cX3_isWithin 0 = .ok (.aload_n 0, 1) := by decide +kernel
theorem dX3_isWithin_1 : decode cX3_isWithin 1 = .ok (.iload_n 1, 1) := by decide +kernel
theorem dX3_isWithin_2 : decode cX3_isWithin 2 = .ok (.iload_n 2, 1) := by decide +kernel
theorem dX3_isWithin_3 : decode cX3_isWithin 3 = .ok (.invokevirtual 95, 3) := by decide +kernel
theorem dX3_isWithin_6 : decode cX3_isWithin 6 = .ok (.istore 4, 2) := by decide +kernel
theorem dX3_isWithin_8 : decode cX3_isWithin 8 = .ok (.aload_n 0, 1) := by decide +kernel
theorem dX3_isWithin_9 : decode cX3_isWithin 9 = .ok (.iload_n 1, 1) := by decide +kernel
theorem dX3_isWithin_10 : decode cX3_isWithin 10 = .ok (.iload_n 2, 1) := by decide +kernel
theorem dX3_isWithin_11 : decode cX3_isWithin 11 = .ok (.invokevirtual 98, 3) := by decide +kernel
theorem dX3_isWithin_14 : decode cX3_isWithin 14 = .ok (.istore 5, 2) := by decide +kernel
theorem dX3_isWithin_16 : decode cX3_isWithin 16 = .ok (.iload 4, 2) := by decide +kernel
theorem dX3_isWithin_18 : decode cX3_isWithin 18 = .ok (.iload 4, 2) := by decide +kernel
theorem dX3_isWithin_20 : decode cX3_isWithin 20 = .ok (.imul, 1) := by decide +kernel
theorem dX3_isWithin_21 : decode cX3_isWithin 21 = .ok (.iload 5, 2) := by decide +kernel
theorem dX3_isWithin_23 : decode cX3_isWithin 23 = .ok (.iload 5, 2) := by decide +kernel
theorem dX3_isWithin_25 : decode cX3_isWithin 25 = .ok (.imul, 1) := by decide +kernel
theorem dX3_isWithin_26 : decode cX3_isWithin 26 = .ok (.iadd, 1) := by decide +kernel
theorem dX3_isWithin_27 : decode cX3_isWithin 27 = .ok (.iload_n 3, 1) := by decide +kernel
theorem dX3_isWithin_28 : decode cX3_isWithin 28 = .ok (.iload_n 3, 1) := by decide +kernel
theorem dX3_isWithin_29 : decode cX3_isWithin 29 = .ok (.imul, 1) := by decide +kernel
theorem dX3_isWithin_30 : decode cX3_isWithin 30 = .ok (.if_icmp .gt 7, 3) := by decide +kernel
theorem dX3_isWithin_33 : decode cX3_isWithin 33 = .ok (.iconst 1, 1) := by decide +kernel
theorem dX3_isWithin_34 : decode cX3_isWithin 34 = .ok (.goto 4, 3) := by decide +kernel
theorem dX3_isWithin_37 : decode cX3_isWithin 37 = .ok (.iconst 0, 1) := by decide +kernel
theorem dX3_isWithin_38 : decode cX3_isWithin 38 = .ok (.ireturn, 1) := by decide +kernel
theorem dJ6_bitCount_0f7a4_0 : decode cJ6_bitCount_0f7a4 0 = .ok (.iload_n 0, 1) := by decide +kernel
theorem dJ6_bitCount_0f7a4_1 : decode cJ6_bitCount_0f7a4 1 = .ok (.iload_n 0, 1) := by decide +kernel
theorem dJ6_bitCount_0f7a4_2 : decode cJ6_bitCount_0f7a4 2 = .ok (.iconst 1, 1) := by decide +kernel
theorem dJ6_bitCount_0f7a4_3 : decode cJ6_bitCount_0f7a4 3 = .ok (.iushr, 1) := by decide +kernel
theorem dJ6_bitCount_0f7a4_4 : decode cJ6_bitCount_0f7a4 4 = .ok (.ldc_w 265, 3) := by decide +kernel
theorem dJ6_bitCount_0f7a4_7 : decode cJ6_bitCount_0f7a4 7 = .ok (.iand, 1) := by decide +kernel
theorem dJ6_bitCount_0f7a4_8 : decode cJ6_bitCount_0f7a4 8 = .ok (.isub, 1) := by decide +kernel
theorem dJ6_bitCount_0f7a4_9 : decode cJ6_bitCount_0f7a4 9 = .ok (.istore_n 0, 1) := by decide +kernel
theorem dJ6_bitCount_0f7a4_10 : decode cJ6_bitCount_0f7a4 10 = .ok (.iload_n 0, 1) := by decide +kernel
theorem dJ6_bitCount_0f7a4_11 : decode cJ6_bitCount_0f7a4 11 = .ok (.ldc_w 266, 3) := by decide +kernel
theorem dJ6_bitCount_0f7a4_14 : decode cJ6_bitCount_0f7a4 14 = .ok (.iand, 1) := by decide +kernel
theorem dJ6_bitCount_0f7a4_15 : decode cJ6_bitCount_0f7a4 15 = .ok (.iload_n 0, 1) := by decide +kernel
theorem dJ6_bitCount_0f7a4_16 : decode cJ6_bitCount_0f7a4 16 = .ok (.iconst 2, 1) := by decide +kernel
theorem dJ6_bitCount_0f7a4_17 : decode cJ6_bitCount_0f7a4 17 = .ok (.iushr, 1) := by decide +kernel
theorem dJ6_bitCount_0f7a4_18 : decode cJ6_bitCount_0f7a4 18 = .ok (.ldc_w 266, 3) := by decide +kernel
theorem dJ6_bitCount_0f7a4_21 : decode cJ6_bitCount_0f7a4 21 = .ok (.iand, 1) := by decide +kernel
theorem dJ6_bitCount_0f7a4_22 : decode cJ6_bitCount_0f7a4 22 = .ok (.iadd, 1) := by decide +kernel
theorem dJ6_bitCount_0f7a4_23 : decode cJ6_bitCount_0f7a4 23 = .ok (.istore_n 0, 1) := by decide +kernel
theorem dJ6_bitCount_0f7a4_24 : decode cJ6_bitCount_0f7a4 24 = .ok (.iload_n 0, 1) := by decide +kernel
theorem dJ6_bitCount_0f7a4_25 : decode cJ6_bitCount_0f7a4 25 = .ok (.iload_n 0, 1) := by decide +kernel
theorem dJ6_bitCount_0f7a4_26 : decode cJ6_bitCount_0f7a4 26 = .ok (.iconst 4, 1) := by decide +kernel
theorem dJ6_bitCount_0f7a4_27 : decode cJ6_bitCount_0f7a4 27 = .ok (.iushr, 1) := by decide +kernel
theorem dJ6_bitCount_0f7a4_28 : decode cJ6_bitCount_0f7a4 28 = .ok (.iadd, 1) := by decide +kernel
theorem dJ6_bitCount_0f7a4_29 : decode cJ6_bitCount_0f7a4 29 = .ok (.ldc_w 267, 3) := by decide +kernel
theorem dJ6_bitCount_0f7a4_32 : decode cJ6_bitCount_0f7a4 32 = .ok (.iand, 1) := by decide +kernel
theorem dJ6_bitCount_0f7a4_33 : decode cJ6_bitCount_0f7a4 33 = .ok (.istore_n 0, 1) := by decide +kernel
theorem dJ6_bitCount_0f7a4_34 : decode cJ6_bitCount_0f7a4 34 = .ok (.iload_n 0, 1) := by decide +kernel
theorem dJ6_bitCount_0f7a4_35 : decode cJ6_bitCount_0f7a4 35 = .ok (.iload_n 0, 1) := by decide +kernel
theorem dJ6_bitCount_0f7a4_36 : decode cJ6_bitCount_0f7a4 36 = .ok (.bipush 8, 2) := by decide +kernel
theorem dJ6_bitCount_0f7a4_38 : decode cJ6_bitCount_0f7a4 38 = .ok (.iushr, 1) := by decide +kernel
theorem dJ6_bitCount_0f7a4_39 : decode cJ6_bitCount_0f7a4 39 = .ok (.iadd, 1) := by decide +kernel
theorem dJ6_bitCount_0f7a4_40 : decode cJ6_bitCount_0f7a4 40 = .ok (.istore_n 0, 1) := by decide +kernel
theorem dJ6_bitCount_0f7a4_41 : decode cJ6_bitCount_0f7a4 41 = .ok (.iload_n 0, 1) := by decide +kernel
theorem dJ6_bitCount_0f7a4_42 : decode cJ6_bitCount_0f7a4 42 = .ok (.iload_n 0, 1) := by decide +kernel
theorem dJ6_bitCount_0f7a4_43 : decode cJ6_bitCount_0f7a4 43 = .ok (.bipush 16, 2) := by decide +kernel
theorem dJ6_bitCount_0f7a4_45 : decode cJ6_bitCount_0f7a4 45 = .ok (.iushr, 1) := by decide +kernel
theorem dJ6_bitCount_0f7a4_46 : decode cJ6_bitCount_0f7a4 46 = .ok (.iadd, 1) := by decide +kernel
theorem dJ6_bitCount_0f7a4_47 : decode cJ6_bitCount_0f7a4 47 = .ok (.istore_n 0, 1) := by decide +kernel
theorem dJ6_bitCount_0f7a4_48 : decode cJ6_bitCount_0f7a4 48 = .ok (.iload_n 0, 1) := by decide +kernel
theorem dJ6_bitCount_0f7a4_49 : decode cJ6_bitCount_0f7a4 49 = .ok (.bipush 63, 2) := by decide +kernel
theorem dJ6_bitCount_0f7a4_51 : decode cJ6_bitCount_0f7a4 51 = .ok (.iand, 1) := by decide +kernel
theorem dJ6_bitCount_0f7a4_52 : decode cJ6_bitCount_0f7a4 52 = .ok (.ireturn, 1) := by decide +kernel
theorem dX3_worthOf_0 : decode cX3_worthOf 0 = .ok (.iconst 0, 1) := by decide +kernel
theorem dX3_worthOf_1 : decode cX3_worthOf 1 = .ok (.istore_n 3, 1) := by decide +kernel
theorem dX3_worthOf_2 : decode cX3_worthOf 2 = .ok (.iconst 0, 1) := by decide +kernel
theorem dX3_worthOf_3 : decode cX3_worthOf 3 = .ok (.istore 4, 2) := by decide +kernel
theorem dX3_worthOf_5 : decode cX3_worthOf 5 = .ok (.iload 4, 2) := by decide +kernel
theorem dX3_worthOf_7 : decode cX3_worthOf 7 = .ok (.aload_n 0, 1) := by decide +kernel
theorem dX3_worthOf_8 : decode cX3_worthOf 8 = .ok (.getfield 33, 3) := by decide +kernel
theorem dX3_worthOf_11 : decode cX3_worthOf 11 = .ok (.if_icmp .ge 49, 3) := by decide +kernel
theorem dX3_worthOf_14 : decode cX3_worthOf 14 = .ok (.iload_n 1, 1) := by decide +kernel
theorem dX3_worthOf_15 : decode cX3_worthOf 15 = .ok (.iload 4, 2) := by decide +kernel
theorem dX3_worthOf_17 : decode cX3_worthOf 17 = .ok (.ishr, 1) := by decide +kernel
theorem dX3_worthOf_18 : decode cX3_worthOf 18 = .ok (.iconst 1, 1) := by decide +kernel
theorem dX3_worthOf_19 : decode cX3_worthOf 19 = .ok (.iand, 1) := by decide +kernel
theorem dX3_worthOf_20 : decode cX3_worthOf 20 = .ok (.ifCond .eq 34, 3) := by decide +kernel
theorem dX3_worthOf_23 : decode cX3_worthOf 23 = .ok (.iload_n 3, 1) := by decide +kernel
theorem dX3_worthOf_24 : decode cX3_worthOf 24 = .ok (.iload_n 2, 1) := by decide +kernel
theorem dX3_worthOf_25 : decode cX3_worthOf 25 = .ok (.iload 4, 2) := by decide +kernel
theorem dX3_worthOf_27 : decode cX3_worthOf 27 = .ok (.ishr, 1) := by decide +kernel
theorem dX3_worthOf_28 : decode cX3_worthOf 28 = .ok (.iconst 1, 1) := by decide +kernel
theorem dX3_worthOf_29 : decode cX3_worthOf 29 = .ok (.iand, 1) := by decide +kernel
theorem dX3_worthOf_30 : decode cX3_worthOf 30 = .ok (.ifCond .eq 15, 3) := by decide +kernel
theorem dX3_worthOf_33 : decode cX3_worthOf 33 = .ok (.aload_n 0, 1) := by decide +kernel
theorem dX3_worthOf_34 : decode cX3_worthOf 34 = .ok (.getfield 18, 3) := by decide +kernel
theorem dX3_worthOf_37 : decode cX3_worthOf 37 = .ok (.iload 4, 2) := by decide +kernel
theorem dX3_worthOf_39 : decode cX3_worthOf 39 = .ok (.iaload, 1) := by decide +kernel
theorem dX3_worthOf_40 : decode cX3_worthOf 40 = .ok (.iconst 2, 1) := by decide +kernel
theorem dX3_worthOf_41 : decode cX3_worthOf 41 = .ok (.idiv, 1) := by decide +kernel
theorem dX3_worthOf_42 : decode cX3_worthOf 42 = .ok (.goto 10, 3) := by decide +kernel
theorem dX3_worthOf_45 : decode cX3_worthOf 45 = .ok (.aload_n 0, 1) := by decide +kernel
theorem dX3_worthOf_46 : decode cX3_worthOf 46 = .ok (.getfield 18, 3) := by decide +kernel
theorem dX3_worthOf_49 : decode cX3_worthOf 49 = .ok (.iload 4, 2) := by decide +kernel
theorem dX3_worthOf_51 : decode cX3_worthOf 51 = .ok (.iaload, 1) := by decide +kernel
theorem dX3_worthOf_52 : decode cX3_worthOf 52 = .ok (.iadd, 1) := by decide +kernel
theorem dX3_worthOf_53 : decode cX3_worthOf 53 = .ok (.istore_n 3, 1) := by decide +kernel
theorem dX3_worthOf_54 : decode cX3_worthOf 54 = .ok (.iinc 4 1, 3) := by decide +kernel
theorem dX3_worthOf_57 : decode cX3_worthOf 57 = .ok (.goto (-52), 3) := by decide +kernel
theorem dX3_worthOf_60 : decode cX3_worthOf 60 = .ok (.iload_n 3, 1) := by decide +kernel
theorem dX3_worthOf_61 : decode cX3_worthOf 61 = .ok (.ireturn, 1) := by decide +kernel
theorem dX0_worthOf_0 : decode cX0_worthOf 0 = .ok (.aload_n 0, 1) := by decide +kernel
theorem dX0_worthOf_1 : decode cX0_worthOf 1 = .ok (.getfield 12, 3) := by decide +kernel
theorem dX0_worthOf_4 : decode cX0_worthOf 4 = .ok (.iload_n 1, 1) := by decide +kernel
theorem dX0_worthOf_5 : decode cX0_worthOf 5 = .ok (.aload_n 0, 1) := by decide +kernel
theorem dX0_worthOf_6 : decode cX0_worthOf 6 = .ok (.getfield 21, 3) := by decide +kernel
theorem dX0_worthOf_9 : decode cX0_worthOf 9 = .ok (.getfield 46, 3) := by decide +kernel
theorem dX0_worthOf_12 : decode cX0_worthOf 12 = .ok (.invokevirtual 49, 3) := by decide +kernel
theorem dX0_worthOf_15 : decode cX0_worthOf 15 = .ok (.ireturn, 1) := by decide +kernel
theorem dX7_meant_0 : decode cX7_meant 0 = .ok (.iload_n 1, 1) := by decide +kernel
theorem dX7_meant_1 : decode cX7_meant 1 = .ok (.sipush 1000, 3) := by decide +kernel
theorem dX7_meant_4 : decode cX7_meant 4 = .ok (.isub, 1) := by decide +kernel
theorem dX7_meant_5 : decode cX7_meant 5 = .ok (.istore_n 2, 1) := by decide +kernel
theorem dX7_meant_6 : decode cX7_meant 6 = .ok (.iload_n 2, 1) := by decide +kernel
theorem dX7_meant_7 : decode cX7_meant 7 = .ok (.ifCond .lt 21, 3) := by decide +kernel
theorem dX7_meant_10 : decode cX7_meant 10 = .ok (.iload_n 2, 1) := by decide +kernel
theorem dX7_meant_11 : decode cX7_meant 11 = .ok (.aload_n 0, 1) := by decide +kernel
theorem dX7_meant_12 : decode cX7_meant 12 = .ok (.getfield 19, 3) := by decide +kernel
theorem dX7_meant_15 : decode cX7_meant 15 = .ok (.arraylength, 1) := by decide +kernel
theorem dX7_meant_16 : decode cX7_meant 16 = .ok (.if_icmp .ge 12, 3) := by decide +kernel
theorem dX7_meant_19 : decode cX7_meant 19 = .ok (.aload_n 0, 1) := by decide +kernel
theorem dX7_meant_20 : decode cX7_meant 20 = .ok (.getfield 19, 3) := by decide +kernel
theorem dX7_meant_23 : decode cX7_meant 23 = .ok (.iload_n 2, 1) := by decide +kernel
theorem dX7_meant_24 : decode cX7_meant 24 = .ok (.iaload, 1) := by decide +kernel
theorem dX7_meant_25 : decode cX7_meant 25 = .ok (.goto 4, 3) := by decide +kernel
theorem dX7_meant_28 : decode cX7_meant 28 = .ok (.iload_n 1, 1) := by decide +kernel
theorem dX7_meant_29 : decode cX7_meant 29 = .ok (.ireturn, 1) := by decide +kernel
theorem dX7_join_0 : decode cX7_join 0 = .ok (.iload_n 0, 1) := by decide +kernel
theorem dX7_join_1 : decode cX7_join 1 = .ok (.lookupswitch 104 #[(42, 100), (43, 92), (45, 96), (60, 59), (61, 81), (62, 70)], 59) := by decide +kernel
theorem dX7_join_60 : decode cX7_join 60 = .ok (.iload_n 1, 1) := by decide +kernel
theorem dX7_join_61 : decode cX7_join 61 = .ok (.iload_n 2, 1) := by decide +kernel
theorem dX7_join_62 : decode cX7_join 62 = .ok (.if_icmp .ge 7, 3) := by decide +kernel
theorem dX7_join_65 : decode cX7_join 65 = .ok (.iconst 1, 1) := by decide +kernel
theorem dX7_join_66 : decode cX7_join 66 = .ok (.goto 4, 3) := by decide +kernel
theorem dX7_join_69 : decode cX7_join 69 = .ok (.iconst 0, 1) := by decide +kernel
theorem dX7_join_70 : decode cX7_join 70 = .ok (.ireturn, 1) := by decide +kernel
theorem dX7_join_71 : decode cX7_join 71 = .ok (.iload_n 1, 1) := by decide +kernel
theorem dX7_join_72 : decode cX7_join 72 = .ok (.iload_n 2, 1) := by decide +kernel
theorem dX7_join_73 : decode cX7_join 73 = .ok (.if_icmp .le 7, 3) := by decide +kernel
theorem dX7_join_76 : decode cX7_join 76 = .ok (.iconst 1, 1) := by decide +kernel
theorem dX7_join_77 : decode cX7_join 77 = .ok (.goto 4, 3) := by decide +kernel
theorem dX7_join_80 : decode cX7_join 80 = .ok (.iconst 0, 1) := by decide +kernel
theorem dX7_join_81 : decode cX7_join 81 = .ok (.ireturn, 1) := by decide +kernel
theorem dX7_join_82 : decode cX7_join 82 = .ok (.iload_n 1, 1) := by decide +kernel
theorem dX7_join_83 : decode cX7_join 83 = .ok (.iload_n 2, 1) := by decide +kernel
theorem dX7_join_84 : decode cX7_join 84 = .ok (.if_icmp .ne 7, 3) := by decide +kernel
theorem dX7_join_87 : decode cX7_join 87 = .ok (.iconst 1, 1) := by decide +kernel
theorem dX7_join_88 : decode cX7_join 88 = .ok (.goto 4, 3) := by decide +kernel
theorem dX7_join_91 : decode cX7_join 91 = .ok (.iconst 0, 1) := by decide +kernel
theorem dX7_join_92 : decode cX7_join 92 = .ok (.ireturn, 1) := by decide +kernel
theorem dX7_join_93 : decode cX7_join 93 = .ok (.iload_n 1, 1) := by decide +kernel
theorem dX7_join_94 : decode cX7_join 94 = .ok (.iload_n 2, 1) := by decide +kernel
theorem dX7_join_95 : decode cX7_join 95 = .ok (.iadd, 1) := by decide +kernel
theorem dX7_join_96 : decode cX7_join 96 = .ok (.ireturn, 1) := by decide +kernel
theorem dX7_join_97 : decode cX7_join 97 = .ok (.iload_n 1, 1) := by decide +kernel
theorem dX7_join_98 : decode cX7_join 98 = .ok (.iload_n 2, 1) := by decide +kernel
theorem dX7_join_99 : decode cX7_join 99 = .ok (.isub, 1) := by decide +kernel
theorem dX7_join_100 : decode cX7_join 100 = .ok (.ireturn, 1) := by decide +kernel
theorem dX7_join_101 : decode cX7_join 101 = .ok (.iload_n 1, 1) := by decide +kernel
theorem dX7_join_102 : decode cX7_join 102 = .ok (.iload_n 2, 1) := by decide +kernel
theorem dX7_join_103 : decode cX7_join 103 = .ok (.imul, 1) := by decide +kernel
theorem dX7_join_104 : decode cX7_join 104 = .ok (.ireturn, 1) := by decide +kernel
theorem dX7_join_105 : decode cX7_join 105 = .ok (.iload_n 2, 1) := by decide +kernel
theorem dX7_join_106 : decode cX7_join 106 = .ok (.ifCond .ne 7, 3) := by decide +kernel
theorem dX7_join_109 : decode cX7_join 109 = .ok (.iconst 0, 1) := by decide +kernel
theorem dX7_join_110 : decode cX7_join 110 = .ok (.goto 6, 3) := by decide +kernel
theorem dX7_join_113 : decode cX7_join 113 = .ok (.iload_n 1, 1) := by decide +kernel
theorem dX7_join_114 : decode cX7_join 114 = .ok (.iload_n 2, 1) := by decide +kernel
theorem dX7_join_115 : decode cX7_join 115 = .ok (.idiv, 1) := by decide +kernel
theorem dX7_join_116 : decode cX7_join 116 = .ok (.ireturn, 1) := by decide +kernel
theorem dX7_reckon_0 : decode cX7_reckon 0 = .ok (.iconst 0, 1) := by decide +kernel
theorem dX7_reckon_1 : decode cX7_reckon 1 = .ok (.istore_n 1, 1) := by decide +kernel
theorem dX7_reckon_2 : decode cX7_reckon 2 = .ok (.iconst 0, 1) := by decide +kernel
theorem dX7_reckon_3 : decode cX7_reckon 3 = .ok (.istore_n 2, 1) := by decide +kernel
theorem dX7_reckon_4 : decode cX7_reckon 4 = .ok (.iload_n 2, 1) := by decide +kernel
theorem dX7_reckon_5 : decode cX7_reckon 5 = .ok (.aload_n 0, 1) := by decide +kernel
theorem dX7_reckon_6 : decode cX7_reckon 6 = .ok (.getfield 35, 3) := by decide +kernel
theorem dX7_reckon_9 : decode cX7_reckon 9 = .ok (.if_icmp .ge 127, 3) := by decide +kernel
theorem dX7_reckon_12 : decode cX7_reckon 12 = .ok (.iload_n 2, 1) := by decide +kernel
theorem dX7_reckon_13 : decode cX7_reckon 13 = .ok (.aload_n 0, 1) := by decide +kernel
theorem dX7_reckon_14 : decode cX7_reckon 14 = .ok (.getfield 29, 3) := by decide +kernel
theorem dX7_reckon_17 : decode cX7_reckon 17 = .ok (.arraylength, 1) := by decide +kernel
theorem dX7_reckon_18 : decode cX7_reckon 18 = .ok (.if_icmp .ge 118, 3) := by decide +kernel
theorem dX7_reckon_21 : decode cX7_reckon 21 = .ok (.aload_n 0, 1) := by decide +kernel
theorem dX7_reckon_22 : decode cX7_reckon 22 = .ok (.getfield 29, 3) := by decide +kernel
theorem dX7_reckon_25 : decode cX7_reckon 25 = .ok (.iload_n 2, 1) := by decide +kernel
theorem dX7_reckon_26 : decode cX7_reckon 26 = .ok (.iaload, 1) := by decide +kernel
theorem dX7_reckon_27 : decode cX7_reckon 27 = .ok (.istore_n 3, 1) := by decide +kernel
theorem dX7_reckon_28 : decode cX7_reckon 28 = .ok (.iload_n 3, 1) := by decide +kernel
theorem dX7_reckon_29 : decode cX7_reckon 29 = .ok (.sipush 2000, 3) := by decide +kernel
theorem dX7_reckon_32 : decode cX7_reckon 32 = .ok (.if_icmp .ge 29, 3) := by decide +kernel
theorem dX7_reckon_35 : decode cX7_reckon 35 = .ok (.iload_n 1, 1) := by decide +kernel
theorem dX7_reckon_36 : decode cX7_reckon 36 = .ok (.aload_n 0, 1) := by decide +kernel
theorem dX7_reckon_37 : decode cX7_reckon 37 = .ok (.getfield 26, 3) := by decide +kernel
theorem dX7_reckon_40 : decode cX7_reckon 40 = .ok (.arraylength, 1) := by decide +kernel
theorem dX7_reckon_41 : decode cX7_reckon 41 = .ok (.if_icmp .ge 89, 3) := by decide +kernel
theorem dX7_reckon_44 : decode cX7_reckon 44 = .ok (.aload_n 0, 1) := by decide +kernel
theorem dX7_reckon_45 : decode cX7_reckon 45 = .ok (.getfield 26, 3) := by decide +kernel
theorem dX7_reckon_48 : decode cX7_reckon 48 = .ok (.iload_n 1, 1) := by decide +kernel
theorem dX7_reckon_49 : decode cX7_reckon 49 = .ok (.aload_n 0, 1) := by decide +kernel
theorem dX7_reckon_50 : decode cX7_reckon 50 = .ok (.iload_n 3, 1) := by decide +kernel
theorem dX7_reckon_51 : decode cX7_reckon 51 = .ok (.invokevirtual 102, 3) := by decide +kernel
theorem dX7_reckon_54 : decode cX7_reckon 54 = .ok (.iastore, 1) := by decide +kernel
theorem dX7_reckon_55 : decode cX7_reckon 55 = .ok (.iinc 1 1, 3) := by decide +kernel
theorem dX7_reckon_58 : decode cX7_reckon 58 = .ok (.goto 72, 3) := by decide +kernel
theorem dX7_reckon_61 : decode cX7_reckon 61 = .ok (.iload_n 3, 1) := by decide +kernel
theorem dX7_reckon_62 : decode cX7_reckon 62 = .ok (.sipush 2256, 3) := by decide +kernel
theorem dX7_reckon_65 : decode cX7_reckon 65 = .ok (.if_icmp .ne 27, 3) := by decide +kernel
theorem dX7_reckon_68 : decode cX7_reckon 68 = .ok (.iload_n 1, 1) := by decide +kernel
theorem dX7_reckon_69 : decode cX7_reckon 69 = .ok (.ifCond .le 61, 3) := by decide +kernel
theorem dX7_reckon_72 : decode cX7_reckon 72 = .ok (.aload_n 0, 1) := by decide +kernel
theorem dX7_reckon_73 : decode cX7_reckon 73 = .ok (.getfield 26, 3) := by decide +kernel
theorem dX7_reckon_76 : decode cX7_reckon 76 = .ok (.iload_n 1, 1) := by decide +kernel
theorem dX7_reckon_77 : decode cX7_reckon 77 = .ok (.iconst 1, 1) := by decide +kernel
theorem dX7_reckon_78 : decode cX7_reckon 78 = .ok (.isub, 1) := by decide +kernel
theorem dX7_reckon_79 : decode cX7_reckon 79 = .ok (.aload_n 0, 1) := by decide +kernel
theorem dX7_reckon_80 : decode cX7_reckon 80 = .ok (.getfield 26, 3) := by decide +kernel
theorem dX7_reckon_83 : decode cX7_reckon 83 = .ok (.iload_n 1, 1) := by decide +kernel
theorem dX7_reckon_84 : decode cX7_reckon 84 = .ok (.iconst 1, 1) := by decide +kernel
theorem dX7_reckon_85 : decode cX7_reckon 85 = .ok (.isub, 1) := by decide +kernel
theorem dX7_reckon_86 : decode cX7_reckon 86 = .ok (.iaload, 1) := by decide +kernel
theorem dX7_reckon_87 : decode cX7_reckon 87 = .ok (.ineg, 1) := by decide +kernel
theorem dX7_reckon_88 : decode cX7_reckon 88 = .ok (.iastore, 1) := by decide +kernel
theorem dX7_reckon_89 : decode cX7_reckon 89 = .ok (.goto 41, 3) := by decide +kernel
theorem dX7_reckon_92 : decode cX7_reckon 92 = .ok (.iload_n 1, 1) := by decide +kernel
theorem dX7_reckon_93 : decode cX7_reckon 93 = .ok (.iconst 1, 1) := by decide +kernel
theorem dX7_reckon_94 : decode cX7_reckon 94 = .ok (.if_icmp .le 36, 3) := by decide +kernel
theorem dX7_reckon_97 : decode cX7_reckon 97 = .ok (.iinc 1 (-1), 3) := by decide +kernel
theorem dX7_reckon_100 : decode cX7_reckon 100 = .ok (.aload_n 0, 1) := by decide +kernel
theorem dX7_reckon_101 : decode cX7_reckon 101 = .ok (.getfield 26, 3) := by decide +kernel
theorem dX7_reckon_104 : decode cX7_reckon 104 = .ok (.iload_n 1, 1) := by decide +kernel
theorem dX7_reckon_105 : decode cX7_reckon 105 = .ok (.iconst 1, 1) := by decide +kernel
theorem dX7_reckon_106 : decode cX7_reckon 106 = .ok (.isub, 1) := by decide +kernel
theorem dX7_reckon_107 : decode cX7_reckon 107 = .ok (.iload_n 3, 1) := by decide +kernel
theorem dX7_reckon_108 : decode cX7_reckon 108 = .ok (.sipush 2000, 3) := by decide +kernel
theorem dX7_reckon_111 : decode cX7_reckon 111 = .ok (.isub, 1) := by decide +kernel
theorem dX7_reckon_112 : decode cX7_reckon 112 = .ok (.aload_n 0, 1) := by decide +kernel
theorem dX7_reckon_113 : decode cX7_reckon 113 = .ok (.getfield 26, 3) := by decide +kernel
theorem dX7_reckon_116 : decode cX7_reckon 116 = .ok (.iload_n 1, 1) := by decide +kernel
theorem dX7_reckon_117 : decode cX7_reckon 117 = .ok (.iconst 1, 1) := by decide +kernel
theorem dX7_reckon_118 : decode cX7_reckon 118 = .ok (.isub, 1) := by decide +kernel
theorem dX7_reckon_119 : decode cX7_reckon 119 = .ok (.iaload, 1) := by decide +kernel
theorem dX7_reckon_120 : decode cX7_reckon 120 = .ok (.aload_n 0, 1) := by decide +kernel
theorem dX7_reckon_121 : decode cX7_reckon 121 = .ok (.getfield 26, 3) := by decide +kernel
theorem dX7_reckon_124 : decode cX7_reckon 124 = .ok (.iload_n 1, 1) := by decide +kernel
theorem dX7_reckon_125 : decode cX7_reckon 125 = .ok (.iaload, 1) := by decide +kernel
theorem dX7_reckon_126 : decode cX7_reckon 126 = .ok (.invokestatic 105, 3) := by decide +kernel
theorem dX7_reckon_129 : decode cX7_reckon 129 = .ok (.iastore, 1) := by decide +kernel
theorem dX7_reckon_130 : decode cX7_reckon 130 = .ok (.iinc 2 1, 3) := by decide +kernel
theorem dX7_reckon_133 : decode cX7_reckon 133 = .ok (.goto (-129), 3) := by decide +kernel
theorem dX7_reckon_136 : decode cX7_reckon 136 = .ok (.iload_n 1, 1) := by decide +kernel
theorem dX7_reckon_137 : decode cX7_reckon 137 = .ok (.ifCond .le 14, 3) := by decide +kernel
theorem dX7_reckon_140 : decode cX7_reckon 140 = .ok (.aload_n 0, 1) := by decide +kernel
theorem dX7_reckon_141 : decode cX7_reckon 141 = .ok (.getfield 26, 3) := by decide +kernel
theorem dX7_reckon_144 : decode cX7_reckon 144 = .ok (.iload_n 1, 1) := by decide +kernel
theorem dX7_reckon_145 : decode cX7_reckon 145 = .ok (.iconst 1, 1) := by decide +kernel
theorem dX7_reckon_146 : decode cX7_reckon 146 = .ok (.isub, 1) := by decide +kernel
theorem dX7_reckon_147 : decode cX7_reckon 147 = .ok (.iaload, 1) := by decide +kernel
theorem dX7_reckon_148 : decode cX7_reckon 148 = .ok (.goto 4, 3) := by decide +kernel
theorem dX7_reckon_151 : decode cX7_reckon 151 = .ok (.iconst 0, 1) := by decide +kernel
theorem dX7_reckon_152 : decode cX7_reckon 152 = .ok (.ireturn, 1) := by decide +kernel
theorem dX0_pickSeconds_0 : decode cX0_pickSeconds 0 = .ok (.aload_n 0, 1) := by decide +kernel
theorem dX0_pickSeconds_1 : decode cX0_pickSeconds 1 = .ok (.getfield 28, 3) := by decide +kernel
theorem dX0_pickSeconds_4 : decode cX0_pickSeconds 4 = .ok (.getfield 75, 3) := by decide +kernel
theorem dX0_pickSeconds_7 : decode cX0_pickSeconds 7 = .ok (.astore 5, 2) := by decide +kernel
theorem dX0_pickSeconds_9 : decode cX0_pickSeconds 9 = .ok (.aload_n 0, 1) := by decide +kernel
theorem dX0_pickSeconds_10 : decode cX0_pickSeconds 10 = .ok (.getfield 12, 3) := by decide +kernel
theorem dX0_pickSeconds_13 : decode cX0_pickSeconds 13 = .ok (.iload_n 1, 1) := by decide +kernel
theorem dX0_pickSeconds_14 : decode cX0_pickSeconds 14 = .ok (.iload_n 2, 1) := by decide +kernel
theorem dX0_pickSeconds_15 : decode cX0_pickSeconds 15 = .ok (.invokevirtual 79, 3) := by decide +kernel
theorem dX0_pickSeconds_18 : decode cX0_pickSeconds 18 = .ok (.istore 6, 2) := by decide +kernel
theorem dX0_pickSeconds_20 : decode cX0_pickSeconds 20 = .ok (.aload_n 0, 1) := by decide +kernel
theorem dX0_pickSeconds_21 : decode cX0_pickSeconds 21 = .ok (.getfield 12, 3) := by decide +kernel
theorem dX0_pickSeconds_24 : decode cX0_pickSeconds 24 = .ok (.iload_n 1, 1) := by decide +kernel
theorem dX0_pickSeconds_25 : decode cX0_pickSeconds 25 = .ok (.iload_n 2, 1) := by decide +kernel
theorem dX0_pickSeconds_26 : decode cX0_pickSeconds 26 = .ok (.invokevirtual 82, 3) := by decide +kernel
theorem dX0_pickSeconds_29 : decode cX0_pickSeconds 29 = .ok (.istore 7, 2) := by decide +kernel
theorem dX0_pickSeconds_31 : decode cX0_pickSeconds 31 = .ok (.aload 5, 2) := by decide +kernel
theorem dX0_pickSeconds_33 : decode cX0_pickSeconds 33 = .ok (.arraylength, 1) := by decide +kernel
theorem dX0_pickSeconds_34 : decode cX0_pickSeconds 34 = .ok (.bipush 7, 2) := by decide +kernel
theorem dX0_pickSeconds_36 : decode cX0_pickSeconds 36 = .ok (.if_icmp .lt 56, 3) := by decide +kernel
theorem dX0_pickSeconds_39 : decode cX0_pickSeconds 39 = .ok (.aload 5, 2) := by decide +kernel
theorem dX0_pickSeconds_41 : decode cX0_pickSeconds 41 = .ok (.iconst 0, 1) := by decide +kernel
theorem dX0_pickSeconds_42 : decode cX0_pickSeconds 42 = .ok (.iload 6, 2) := by decide +kernel
theorem dX0_pickSeconds_44 : decode cX0_pickSeconds 44 = .ok (.iastore, 1) := by decide +kernel
theorem dX0_pickSeconds_45 : decode cX0_pickSeconds 45 = .ok (.aload 5, 2) := by decide +kernel
theorem dX0_pickSeconds_47 : decode cX0_pickSeconds 47 = .ok (.iconst 1, 1) := by decide +kernel
theorem dX0_pickSeconds_48 : decode cX0_pickSeconds 48 = .ok (.iload 7, 2) := by decide +kernel
theorem dX0_pickSeconds_50 : decode cX0_pickSeconds 50 = .ok (.iastore, 1) := by decide +kernel
theorem dX0_pickSeconds_51 : decode cX0_pickSeconds 51 = .ok (.aload 5, 2) := by decide +kernel
theorem dX0_pickSeconds_53 : decode cX0_pickSeconds 53 = .ok (.iconst 2, 1) := by decide +kernel
theorem dX0_pickSeconds_54 : decode cX0_pickSeconds 54 = .ok (.aload_n 0, 1) := by decide +kernel
theorem dX0_pickSeconds_55 : decode cX0_pickSeconds 55 = .ok (.getfield 12, 3) := by decide +kernel
theorem dX0_pickSeconds_58 : decode cX0_pickSeconds 58 = .ok (.getfield 85, 3) := by decide +kernel
theorem dX0_pickSeconds_61 : decode cX0_pickSeconds 61 = .ok (.iload_n 1, 1) := by decide +kernel
theorem dX0_pickSeconds_62 : decode cX0_pickSeconds 62 = .ok (.iaload, 1) := by decide +kernel
theorem dX0_pickSeconds_63 : decode cX0_pickSeconds 63 = .ok (.iastore, 1) := by decide +kernel
theorem dX0_pickSeconds_64 : decode cX0_pickSeconds 64 = .ok (.aload 5, 2) := by decide +kernel
theorem dX0_pickSeconds_66 : decode cX0_pickSeconds 66 = .ok (.iconst 3, 1) := by decide +kernel
theorem dX0_pickSeconds_67 : decode cX0_pickSeconds 67 = .ok (.aload_n 0, 1) := by decide +kernel
theorem dX0_pickSeconds_68 : decode cX0_pickSeconds 68 = .ok (.iconst 1, 1) := by decide +kernel
theorem dX0_pickSeconds_69 : decode cX0_pickSeconds 69 = .ok (.iload_n 1, 1) := by decide +kernel
theorem dX0_pickSeconds_70 : decode cX0_pickSeconds 70 = .ok (.ishl, 1) := by decide +kernel
theorem dX0_pickSeconds_71 : decode cX0_pickSeconds 71 = .ok (.invokevirtual 88, 3) := by decide +kernel
theorem dX0_pickSeconds_74 : decode cX0_pickSeconds 74 = .ok (.iastore, 1) := by decide +kernel
theorem dX0_pickSeconds_75 : decode cX0_pickSeconds 75 = .ok (.aload 5, 2) := by decide +kernel
theorem dX0_pickSeconds_77 : decode cX0_pickSeconds 77 = .ok (.iconst 4, 1) := by decide +kernel
theorem dX0_pickSeconds_78 : decode cX0_pickSeconds 78 = .ok (.iload_n 2, 1) := by decide +kernel
theorem dX0_pickSeconds_79 : decode cX0_pickSeconds 79 = .ok (.iastore, 1) := by decide +kernel
theorem dX0_pickSeconds_80 : decode cX0_pickSeconds 80 = .ok (.aload 5, 2) := by decide +kernel
theorem dX0_pickSeconds_82 : decode cX0_pickSeconds 82 = .ok (.iconst 5, 1) := by decide +kernel
theorem dX0_pickSeconds_83 : decode cX0_pickSeconds 83 = .ok (.iload 4, 2) := by decide +kernel
theorem dX0_pickSeconds_85 : decode cX0_pickSeconds 85 = .ok (.iastore, 1) := by decide +kernel
theorem dX0_pickSeconds_86 : decode cX0_pickSeconds 86 = .ok (.aload 5, 2) := by decide +kernel
theorem dX0_pickSeconds_88 : decode cX0_pickSeconds 88 = .ok (.bipush 6, 2) := by decide +kernel
theorem dX0_pickSeconds_90 : decode cX0_pickSeconds 90 = .ok (.iload_n 3, 1) := by decide +kernel
theorem dX0_pickSeconds_91 : decode cX0_pickSeconds 91 = .ok (.iastore, 1) := by decide +kernel
theorem dX0_pickSeconds_92 : decode cX0_pickSeconds 92 = .ok (.aload_n 0, 1) := by decide +kernel
theorem dX0_pickSeconds_93 : decode cX0_pickSeconds 93 = .ok (.getfield 28, 3) := by decide +kernel
theorem dX0_pickSeconds_96 : decode cX0_pickSeconds 96 = .ok (.getfield 90, 3) := by decide +kernel
theorem dX0_pickSeconds_99 : decode cX0_pickSeconds 99 = .ok (.ifCond .ne 17, 3) := by decide +kernel
theorem dX0_pickSeconds_102 : decode cX0_pickSeconds 102 = .ok (.iconst 2, 1) := by decide +kernel
theorem dX0_pickSeconds_103 : decode cX0_pickSeconds 103 = .ok (.iload 6, 2) := by decide +kernel
theorem dX0_pickSeconds_105 : decode cX0_pickSeconds 105 = .ok (.iconst 4, 1) := by decide +kernel
theorem dX0_pickSeconds_106 : decode cX0_pickSeconds 106 = .ok (.idiv, 1) := by decide +kernel
theorem dX0_pickSeconds_107 : decode cX0_pickSeconds 107 = .ok (.iadd, 1) := by decide +kernel
theorem dX0_pickSeconds_108 : decode cX0_pickSeconds 108 = .ok (.iload 7, 2) := by decide +kernel
theorem dX0_pickSeconds_110 : decode cX0_pickSeconds 110 = .ok (.iconst 2, 1) := by decide +kernel
theorem dX0_pickSeconds_111 : decode cX0_pickSeconds 111 = .ok (.idiv, 1) := by decide +kernel
theorem dX0_pickSeconds_112 : decode cX0_pickSeconds 112 = .ok (.iadd, 1) := by decide +kernel
theorem dX0_pickSeconds_113 : decode cX0_pickSeconds 113 = .ok (.goto 10, 3) := by decide +kernel
theorem dX0_pickSeconds_116 : decode cX0_pickSeconds 116 = .ok (.aload_n 0, 1) := by decide +kernel
theorem dX0_pickSeconds_117 : decode cX0_pickSeconds 117 = .ok (.getfield 28, 3) := by decide +kernel
theorem dX0_pickSeconds_120 : decode cX0_pickSeconds 120 = .ok (.invokevirtual 93, 3) := by decide +kernel
theorem dX0_pickSeconds_123 : decode cX0_pickSeconds 123 = .ok (.istore 8, 2) := by decide +kernel
theorem dX0_pickSeconds_125 : decode cX0_pickSeconds 125 = .ok (.iconst 1, 1) := by decide +kernel
theorem dX0_pickSeconds_126 : decode cX0_pickSeconds 126 = .ok (.bipush 99, 2) := by decide +kernel
theorem dX0_pickSeconds_128 : decode cX0_pickSeconds 128 = .ok (.iload 8, 2) := by decide +kernel
theorem dX0_pickSeconds_130 : decode cX0_pickSeconds 130 = .ok (.invokestatic 96, 3) := by decide +kernel
theorem dX0_pickSeconds_133 : decode cX0_pickSeconds 133 = .ok (.invokestatic 101, 3) := by decide +kernel
theorem dX0_pickSeconds_136 : decode cX0_pickSeconds 136 = .ok (.ireturn, 1) := by decide +kernel
theorem dX0_pickFruit_0 : decode cX0_pickFruit 0 = .ok (.aload_n 0, 1) := by decide +kernel
theorem dX0_pickFruit_1 : decode cX0_pickFruit 1 = .ok (.getfield 12, 3) := by decide +kernel
theorem dX0_pickFruit_4 : decode cX0_pickFruit 4 = .ok (.iload_n 1, 1) := by decide +kernel
theorem dX0_pickFruit_5 : decode cX0_pickFruit 5 = .ok (.invokevirtual 124, 3) := by decide +kernel
theorem dX0_pickFruit_8 : decode cX0_pickFruit 8 = .ok (.ifCond .eq 10, 3) := by decide +kernel
theorem dX0_pickFruit_11 : decode cX0_pickFruit 11 = .ok (.iload_n 2, 1) := by decide +kernel
theorem dX0_pickFruit_12 : decode cX0_pickFruit 12 = .ok (.invokestatic 121, 3) := by decide +kernel
theorem dX0_pickFruit_15 : decode cX0_pickFruit 15 = .ok (.ifCond .ne 5, 3) := by decide +kernel
theorem dX0_pickFruit_18 : decode cX0_pickFruit 18 = .ok (.iconst (-1), 1) := by decide +kernel
theorem dX0_pickFruit_19 : decode cX0_pickFruit 19 = .ok (.ireturn, 1) := by decide +kernel
theorem dX0_pickFruit_20 : decode cX0_pickFruit 20 = .ok (.aload_n 0, 1) := by decide +kernel
theorem dX0_pickFruit_21 : decode cX0_pickFruit 21 = .ok (.invokevirtual 65, 3) := by decide +kernel
theorem dX0_pickFruit_24 : decode cX0_pickFruit 24 = .ok (.istore_n 3, 1) := by decide +kernel
theorem dX0_pickFruit_25 : decode cX0_pickFruit 25 = .ok (.iload_n 3, 1) := by decide +kernel
theorem dX0_pickFruit_26 : decode cX0_pickFruit 26 = .ok (.iload_n 1, 1) := by decide +kernel
theorem dX0_pickFruit_27 : decode cX0_pickFruit 27 = .ok (.ishr, 1) := by decide +kernel
theorem dX0_pickFruit_28 : decode cX0_pickFruit 28 = .ok (.iconst 1, 1) := by decide +kernel
theorem dX0_pickFruit_29 : decode cX0_pickFruit 29 = .ok (.iand, 1) := by decide +kernel
theorem dX0_pickFruit_30 : decode cX0_pickFruit 30 = .ok (.ifCond .ne 6, 3) := by decide +kernel
theorem dX0_pickFruit_33 : decode cX0_pickFruit 33 = .ok (.bipush (-2), 2) := by decide +kernel
theorem dX0_pickFruit_35 : decode cX0_pickFruit 35 = .ok (.ireturn, 1) := by decide +kernel
theorem dX0_pickFruit_36 : decode cX0_pickFruit 36 = .ok (.aload_n 0, 1) := by decide +kernel
theorem dX0_pickFruit_37 : decode cX0_pickFruit 37 = .ok (.getfield 12, 3) := by decide +kernel
theorem dX0_pickFruit_40 : decode cX0_pickFruit 40 = .ok (.getfield 127, 3) := by decide +kernel
theorem dX0_pickFruit_43 : decode cX0_pickFruit 43 = .ok (.iload_n 1, 1) := by decide +kernel
theorem dX0_pickFruit_44 : decode cX0_pickFruit 44 = .ok (.iaload, 1) := by decide +kernel
theorem dX0_pickFruit_45 : decode cX0_pickFruit 45 = .ok (.aload_n 0, 1) := by decide +kernel
theorem dX0_pickFruit_46 : decode cX0_pickFruit 46 = .ok (.getfield 21, 3) := by decide +kernel
theorem dX0_pickFruit_49 : decode cX0_pickFruit 49 = .ok (.getfield 68, 3) := by decide +kernel
theorem dX0_pickFruit_52 : decode cX0_pickFruit 52 = .ok (.if_icmp .le 6, 3) := by decide +kernel
theorem dX0_pickFruit_55 : decode cX0_pickFruit 55 = .ok (.bipush (-3), 2) := by decide +kernel
theorem dX0_pickFruit_57 : decode cX0_pickFruit 57 = .ok (.ireturn, 1) := by decide +kernel
theorem dX0_pickFruit_58 : decode cX0_pickFruit 58 = .ok (.aload_n 0, 1) := by decide +kernel
theorem dX0_pickFruit_59 : decode cX0_pickFruit 59 = .ok (.getfield 21, 3) := by decide +kernel
theorem dX0_pickFruit_62 : decode cX0_pickFruit 62 = .ok (.getfield 53, 3) := by decide +kernel
theorem dX0_pickFruit_65 : decode cX0_pickFruit 65 = .ok (.iconst (-1), 1) := by decide +kernel
theorem dX0_pickFruit_66 : decode cX0_pickFruit 66 = .ok (.if_icmp .eq 36, 3) := by decide +kernel
theorem dX0_pickFruit_69 : decode cX0_pickFruit 69 = .ok (.aload_n 0, 1) := by decide +kernel
theorem dX0_pickFruit_70 : decode cX0_pickFruit 70 = .ok (.getfield 12, 3) := by decide +kernel
theorem dX0_pickFruit_73 : decode cX0_pickFruit 73 = .ok (.iload_n 1, 1) := by decide +kernel
theorem dX0_pickFruit_74 : decode cX0_pickFruit 74 = .ok (.aload_n 0, 1) := by decide +kernel
theorem dX0_pickFruit_75 : decode cX0_pickFruit 75 = .ok (.getfield 21, 3) := by decide +kernel
theorem dX0_pickFruit_78 : decode cX0_pickFruit 78 = .ok (.getfield 53, 3) := by decide +kernel
theorem dX0_pickFruit_81 : decode cX0_pickFruit 81 = .ok (.aload_n 0, 1) := by decide +kernel
theorem dX0_pickFruit_82 : decode cX0_pickFruit 82 = .ok (.getfield 12, 3) := by decide +kernel
theorem dX0_pickFruit_85 : decode cX0_pickFruit 85 = .ok (.aload_n 0, 1) := by decide +kernel
theorem dX0_pickFruit_86 : decode cX0_pickFruit 86 = .ok (.getfield 21, 3) := by decide +kernel
theorem dX0_pickFruit_89 : decode cX0_pickFruit 89 = .ok (.getfield 56, 3) := by decide +kernel
theorem dX0_pickFruit_92 : decode cX0_pickFruit 92 = .ok (.iload_n 2, 1) := by decide +kernel
theorem dX0_pickFruit_93 : decode cX0_pickFruit 93 = .ok (.invokevirtual 59, 3) := by decide +kernel
theorem dX0_pickFruit_96 : decode cX0_pickFruit 96 = .ok (.invokevirtual 130, 3) := by decide +kernel
theorem dX0_pickFruit_99 : decode cX0_pickFruit 99 = .ok (.ifCond .ne 6, 3) := by decide +kernel
theorem dX0_pickFruit_102 : decode cX0_pickFruit 102 = .ok (.bipush (-4), 2) := by decide +kernel
theorem dX0_pickFruit_104 : decode cX0_pickFruit 104 = .ok (.ireturn, 1) := by decide +kernel
theorem dX0_pickFruit_105 : decode cX0_pickFruit 105 = .ok (.aload_n 0, 1) := by decide +kernel
theorem dX0_pickFruit_106 : decode cX0_pickFruit 106 = .ok (.getfield 21, 3) := by decide +kernel
theorem dX0_pickFruit_109 : decode cX0_pickFruit 109 = .ok (.getfield 36, 3) := by decide +kernel
theorem dX0_pickFruit_112 : decode cX0_pickFruit 112 = .ok (.invokestatic 134, 3) := by decide +kernel
theorem dX0_pickFruit_115 : decode cX0_pickFruit 115 = .ok (.istore 4, 2) := by decide +kernel
theorem dX0_pickFruit_117 : decode cX0_pickFruit 117 = .ok (.iload 4, 2) := by decide +kernel
theorem dX0_pickFruit_119 : decode cX0_pickFruit 119 = .ok (.aload_n 0, 1) := by decide +kernel
theorem dX0_pickFruit_120 : decode cX0_pickFruit 120 = .ok (.getfield 12, 3) := by decide +kernel
theorem dX0_pickFruit_123 : decode cX0_pickFruit 123 = .ok (.getfield 139, 3) := by decide +kernel
theorem dX0_pickFruit_126 : decode cX0_pickFruit 126 = .ok (.iconst 4, 1) := by decide +kernel
theorem dX0_pickFruit_127 : decode cX0_pickFruit 127 = .ok (.iaload, 1) := by decide +kernel
theorem dX0_pickFruit_128 : decode cX0_pickFruit 128 = .ok (.if_icmp .lt 6, 3) := by decide +kernel
theorem dX0_pickFruit_131 : decode cX0_pickFruit 131 = .ok (.bipush (-5), 2) := by decide +kernel
theorem dX0_pickFruit_133 : decode cX0_pickFruit 133 = .ok (.ireturn, 1) := by decide +kernel
theorem dX0_pickFruit_134 : decode cX0_pickFruit 134 = .ok (.aload_n 0, 1) := by decide +kernel
theorem dX0_pickFruit_135 : decode cX0_pickFruit 135 = .ok (.iload_n 1, 1) := by decide +kernel
theorem dX0_pickFruit_136 : decode cX0_pickFruit 136 = .ok (.aload_n 0, 1) := by decide +kernel
theorem dX0_pickFruit_137 : decode cX0_pickFruit 137 = .ok (.getfield 21, 3) := by decide +kernel
theorem dX0_pickFruit_140 : decode cX0_pickFruit 140 = .ok (.getfield 53, 3) := by decide +kernel
theorem dX0_pickFruit_143 : decode cX0_pickFruit 143 = .ok (.iload_n 2, 1) := by decide +kernel
theorem dX0_pickFruit_144 : decode cX0_pickFruit 144 = .ok (.iload 4, 2) := by decide +kernel
theorem dX0_pickFruit_146 : decode cX0_pickFruit 146 = .ok (.invokevirtual 142, 3) := by decide +kernel
theorem dX0_pickFruit_149 : decode cX0_pickFruit 149 = .ok (.istore 5, 2) := by decide +kernel
theorem dX0_pickFruit_151 : decode cX0_pickFruit 151 = .ok (.aload_n 0, 1) := by decide +kernel
theorem dX0_pickFruit_152 : decode cX0_pickFruit 152 = .ok (.getfield 21, 3) := by decide +kernel
theorem dX0_pickFruit_155 : decode cX0_pickFruit 155 = .ok (.dup, 1) := by decide +kernel
theorem dX0_pickFruit_156 : decode cX0_pickFruit 156 = .ok (.getfield 46, 3) := by decide +kernel
theorem dX0_pickFruit_159 : decode cX0_pickFruit 159 = .ok (.aload_n 0, 1) := by decide +kernel
theorem dX0_pickFruit_160 : decode cX0_pickFruit 160 = .ok (.getfield 12, 3) := by decide +kernel
theorem dX0_pickFruit_163 : decode cX0_pickFruit 163 = .ok (.iload_n 1, 1) := by decide +kernel
theorem dX0_pickFruit_164 : decode cX0_pickFruit 164 = .ok (.iload_n 3, 1) := by decide +kernel
theorem dX0_pickFruit_165 : decode cX0_pickFruit 165 = .ok (.invokevirtual 146, 3) := by decide +kernel
theorem dX0_pickFruit_168 : decode cX0_pickFruit 168 = .ok (.ior, 1) := by decide +kernel
theorem dX0_pickFruit_169 : decode cX0_pickFruit 169 = .ok (.putfield 46, 3) := by decide +kernel
theorem dX0_pickFruit_172 : decode cX0_pickFruit 172 = .ok (.aload_n 0, 1) := by decide +kernel
theorem dX0_pickFruit_173 : decode cX0_pickFruit 173 = .ok (.getfield 21, 3) := by decide +kernel
theorem dX0_pickFruit_176 : decode cX0_pickFruit 176 = .ok (.dup, 1) := by decide +kernel
theorem dX0_pickFruit_177 : decode cX0_pickFruit 177 = .ok (.getfield 36, 3) := by decide +kernel
theorem dX0_pickFruit_180 : decode cX0_pickFruit 180 = .ok (.iconst 1, 1) := by decide +kernel
theorem dX0_pickFruit_181 : decode cX0_pickFruit 181 = .ok (.iload_n 1, 1) := by decide +kernel
theorem dX0_pickFruit_182 : decode cX0_pickFruit 182 = .ok (.ishl, 1) := by decide +kernel
theorem dX0_pickFruit_183 : decode cX0_pickFruit 183 = .ok (.ior, 1) := by decide +kernel
theorem dX0_pickFruit_184 : decode cX0_pickFruit 184 = .ok (.putfield 36, 3) := by decide +kernel
theorem dX0_pickFruit_187 : decode cX0_pickFruit 187 = .ok (.aload_n 0, 1) := by decide +kernel
theorem dX0_pickFruit_188 : decode cX0_pickFruit 188 = .ok (.getfield 21, 3) := by decide +kernel
theorem dX0_pickFruit_191 : decode cX0_pickFruit 191 = .ok (.iload 5, 2) := by decide +kernel
theorem dX0_pickFruit_193 : decode cX0_pickFruit 193 = .ok (.invokevirtual 117, 3) := by decide +kernel
theorem dX0_pickFruit_196 : decode cX0_pickFruit 196 = .ok (.iload 5, 2) := by decide +kernel
theorem dX0_pickFruit_198 : decode cX0_pickFruit 198 = .ok (.ireturn, 1) := by decide +kernel
theorem dX9_pick_0 : decode cX9_pick 0 = .ok (.aload_n 0, 1) := by decide +kernel
theorem dX9_pick_1 : decode cX9_pick 1 = .ok (.getfield 43, 3) := by decide +kernel
theorem dX9_pick_4 : decode cX9_pick 4 = .ok (.aload_n 0, 1) := by decide +kernel
theorem dX9_pick_5 : decode cX9_pick 5 = .ok (.getfield 39, 3) := by decide +kernel
theorem dX9_pick_8 : decode cX9_pick 8 = .ok (.invokevirtual 175, 3) := by decide +kernel
theorem dX9_pick_11 : decode cX9_pick 11 = .ok (.aload_n 0, 1) := by decide +kernel
theorem dX9_pick_12 : decode cX9_pick 12 = .ok (.aload_n 0, 1) := by decide +kernel
theorem dX9_pick_13 : decode cX9_pick 13 = .ok (.getfield 27, 3) := by decide +kernel
theorem dX9_pick_16 : decode cX9_pick 16 = .ok (.iload_n 1, 1) := by decide +kernel
theorem dX9_pick_17 : decode cX9_pick 17 = .ok (.iload_n 2, 1) := by decide +kernel
theorem dX9_pick_18 : decode cX9_pick 18 = .ok (.invokevirtual 188, 3) := by decide +kernel
theorem dX9_pick_21 : decode cX9_pick 21 = .ok (.invokevirtual 182, 3) := by decide +kernel
theorem dX9_pick_24 : decode cX9_pick 24 = .ok (.ireturn, 1) := by decide +kernel
theorem dX0_goDown_0 : decode cX0_goDown 0 = .ok (.aload_n 0, 1) := by decide +kernel
theorem dX0_goDown_1 : decode cX0_goDown 1 = .ok (.getfield 21, 3) := by decide +kernel
theorem dX0_goDown_4 : decode cX0_goDown 4 = .ok (.getfield 53, 3) := by decide +kernel
theorem dX0_goDown_7 : decode cX0_goDown 7 = .ok (.iconst (-1), 1) := by decide +kernel
theorem dX0_goDown_8 : decode cX0_goDown 8 = .ok (.if_icmp .eq 13, 3) := by decide +kernel
theorem dX0_goDown_11 : decode cX0_goDown 11 = .ok (.aload_n 0, 1) := by decide +kernel
theorem dX0_goDown_12 : decode cX0_goDown 12 = .ok (.getfield 21, 3) := by decide +kernel
theorem dX0_goDown_15 : decode cX0_goDown 15 = .ok (.getfield 36, 3) := by decide +kernel
theorem dX0_goDown_18 : decode cX0_goDown 18 = .ok (.ifCond .ne 6, 3) := by decide +kernel
theorem dX0_goDown_21 : decode cX0_goDown 21 = .ok (.bipush (-2), 2) := by decide +kernel
theorem dX0_goDown_23 : decode cX0_goDown 23 = .ok (.ireturn, 1) := by decide +kernel
theorem dX0_goDown_24 : decode cX0_goDown 24 = .ok (.aload_n 0, 1) := by decide +kernel
theorem dX0_goDown_25 : decode cX0_goDown 25 = .ok (.getfield 21, 3) := by decide +kernel
theorem dX0_goDown_28 : decode cX0_goDown 28 = .ok (.getfield 36, 3) := by decide +kernel
theorem dX0_goDown_31 : decode cX0_goDown 31 = .ok (.invokestatic 134, 3) := by decide +kernel
theorem dX0_goDown_34 : decode cX0_goDown 34 = .ok (.istore_n 1, 1) := by decide +kernel
theorem dX0_goDown_35 : decode cX0_goDown 35 = .ok (.aload_n 0, 1) := by decide +kernel
theorem dX0_goDown_36 : decode cX0_goDown 36 = .ok (.getfield 21, 3) := by decide +kernel
theorem dX0_goDown_39 : decode cX0_goDown 39 = .ok (.invokevirtual 114, 3) := by decide +kernel
theorem dX0_goDown_42 : decode cX0_goDown 42 = .ok (.aload_n 0, 1) := by decide +kernel
theorem dX0_goDown_43 : decode cX0_goDown 43 = .ok (.getfield 21, 3) := by decide +kernel
theorem dX0_goDown_46 : decode cX0_goDown 46 = .ok (.aload_n 0, 1) := by decide +kernel
theorem dX0_goDown_47 : decode cX0_goDown 47 = .ok (.getfield 12, 3) := by decide +kernel
theorem dX0_goDown_50 : decode cX0_goDown 50 = .ok (.aload_n 0, 1) := by decide +kernel
theorem dX0_goDown_51 : decode cX0_goDown 51 = .ok (.getfield 21, 3) := by decide +kernel
theorem dX0_goDown_54 : decode cX0_goDown 54 = .ok (.getfield 53, 3) := by decide +kernel
theorem dX0_goDown_57 : decode cX0_goDown 57 = .ok (.invokevirtual 111, 3) := by decide +kernel
theorem dX0_goDown_60 : decode cX0_goDown 60 = .ok (.invokevirtual 117, 3) := by decide +kernel
theorem dX0_goDown_63 : decode cX0_goDown 63 = .ok (.iload_n 1, 1) := by decide +kernel
theorem dX0_goDown_64 : decode cX0_goDown 64 = .ok (.ireturn, 1) := by decide +kernel
theorem dX9_down_0 : decode cX9_down 0 = .ok (.aload_n 0, 1) := by decide +kernel
theorem dX9_down_1 : decode cX9_down 1 = .ok (.getfield 43, 3) := by decide +kernel
theorem dX9_down_4 : decode cX9_down 4 = .ok (.aload_n 0, 1) := by decide +kernel
theorem dX9_down_5 : decode cX9_down 5 = .ok (.getfield 39, 3) := by decide +kernel
theorem dX9_down_8 : decode cX9_down 8 = .ok (.invokevirtual 175, 3) := by decide +kernel
theorem dX9_down_11 : decode cX9_down 11 = .ok (.aload_n 0, 1) := by decide +kernel
theorem dX9_down_12 : decode cX9_down 12 = .ok (.aload_n 0, 1) := by decide +kernel
theorem dX9_down_13 : decode cX9_down 13 = .ok (.getfield 27, 3) := by decide +kernel
theorem dX9_down_16 : decode cX9_down 16 = .ok (.invokevirtual 191, 3) := by decide +kernel
theorem dX9_down_19 : decode cX9_down 19 = .ok (.invokevirtual 182, 3) := by decide +kernel
theorem dX9_down_22 : decode cX9_down 22 = .ok (.ireturn, 1) := by decide +kernel
theorem dX3_within_0 : decode cX3_within 0 = .ok (.iconst 0, 1) := by decide +kernel
theorem dX3_within_1 : decode cX3_within 1 = .ok (.istore_n 3, 1) := by decide +kernel
theorem dX3_within_2 : decode cX3_within 2 = .ok (.iconst 0, 1) := by decide +kernel
theorem dX3_within_3 : decode cX3_within 3 = .ok (.istore 4, 2) := by decide +kernel
theorem dX3_within_5 : decode cX3_within 5 = .ok (.iload 4, 2) := by decide +kernel
theorem dX3_within_7 : decode cX3_within 7 = .ok (.aload_n 0, 1) := by decide +kernel
theorem dX3_within_8 : decode cX3_within 8 = .ok (.getfield 33, 3) := by decide +kernel
theorem dX3_within_11 : decode cX3_within 11 = .ok (.if_icmp .ge 27, 3) := by decide +kernel
theorem dX3_within_14 : decode cX3_within 14 = .ok (.aload_n 0, 1) := by decide +kernel
theorem dX3_within_15 : decode cX3_within 15 = .ok (.iload 4, 2) := by decide +kernel
theorem dX3_within_17 : decode cX3_within 17 = .ok (.iload_n 1, 1) := by decide +kernel
theorem dX3_within_18 : decode cX3_within 18 = .ok (.iload_n 2, 1) := by decide +kernel
theorem dX3_within_19 : decode cX3_within 19 = .ok (.invokevirtual 101, 3) := by decide +kernel
theorem dX3_within_22 : decode cX3_within 22 = .ok (.ifCond .eq 10, 3) := by decide +kernel
theorem dX3_within_25 : decode cX3_within 25 = .ok (.iload_n 3, 1) := by decide +kernel
theorem dX3_within_26 : decode cX3_within 26 = .ok (.iconst 1, 1) := by decide +kernel
theorem dX3_within_27 : decode cX3_within 27 = .ok (.iload 4, 2) := by decide +kernel
theorem dX3_within_29 : decode cX3_within 29 = .ok (.ishl, 1) := by decide +kernel
theorem dX3_within_30 : decode cX3_within 30 = .ok (.ior, 1) := by decide +kernel
theorem dX3_within_31 : decode cX3_within 31 = .ok (.istore_n 3, 1) := by decide +kernel
theorem dX3_within_32 : decode cX3_within 32 = .ok (.iinc 4 1, 3) := by decide +kernel
theorem dX3_within_35 : decode cX3_within 35 = .ok (.goto (-30), 3) := by decide +kernel
theorem dX3_within_38 : decode cX3_within 38 = .ok (.iload_n 3, 1) := by decide +kernel
theorem dX3_within_39 : decode cX3_within 39 = .ok (.ireturn, 1) := by decide +kernel
theorem dX3_ripeBy_0 : decode cX3_ripeBy 0 = .ok (.iconst 0, 1) := by decide +kernel
theorem dX3_ripeBy_1 : decode cX3_ripeBy 1 = .ok (.istore_n 2, 1) := by decide +kernel
theorem dX3_ripeBy_2 : decode cX3_ripeBy 2 = .ok (.iconst 0, 1) := by decide +kernel
theorem dX3_ripeBy_3 : decode cX3_ripeBy 3 = .ok (.istore_n 3, 1) := by decide +kernel
theorem dX3_ripeBy_4 : decode cX3_ripeBy 4 = .ok (.iload_n 3, 1) := by decide +kernel
theorem dX3_ripeBy_5 : decode cX3_ripeBy 5 = .ok (.aload_n 0, 1) := by decide +kernel
theorem dX3_ripeBy_6 : decode cX3_ripeBy 6 = .ok (.getfield 33, 3) := by decide +kernel
theorem dX3_ripeBy_9 : decode cX3_ripeBy 9 = .ok (.if_icmp .ge 25, 3) := by decide +kernel
theorem dX3_ripeBy_12 : decode cX3_ripeBy 12 = .ok (.aload_n 0, 1) := by decide +kernel
theorem dX3_ripeBy_13 : decode cX3_ripeBy 13 = .ok (.getfield 21, 3) := by decide +kernel
theorem dX3_ripeBy_16 : decode cX3_ripeBy 16 = .ok (.iload_n 3, 1) := by decide +kernel
theorem dX3_ripeBy_17 : decode cX3_ripeBy 17 = .ok (.iaload, 1) := by decide +kernel
theorem dX3_ripeBy_18 : decode cX3_ripeBy 18 = .ok (.iload_n 1, 1) := by decide +kernel
theorem dX3_ripeBy_19 : decode cX3_ripeBy 19 = .ok (.if_icmp .gt 9, 3) := by decide +kernel
theorem dX3_ripeBy_22 : decode cX3_ripeBy 22 = .ok (.iload_n 2, 1) := by decide +kernel
theorem dX3_ripeBy_23 : decode cX3_ripeBy 23 = .ok (.iconst 1, 1) := by decide +kernel
theorem dX3_ripeBy_24 : decode cX3_ripeBy 24 = .ok (.iload_n 3, 1) := by decide +kernel
theorem dX3_ripeBy_25 : decode cX3_ripeBy 25 = .ok (.ishl, 1) := by decide +kernel
theorem dX3_ripeBy_26 : decode cX3_ripeBy 26 = .ok (.ior, 1) := by decide +kernel
theorem dX3_ripeBy_27 : decode cX3_ripeBy 27 = .ok (.istore_n 2, 1) := by decide +kernel
theorem dX3_ripeBy_28 : decode cX3_ripeBy 28 = .ok (.iinc 3 1, 3) := by decide +kernel
theorem dX3_ripeBy_31 : decode cX3_ripeBy 31 = .ok (.goto (-27), 3) := by decide +kernel
theorem dX3_ripeBy_34 : decode cX3_ripeBy 34 = .ok (.iload_n 2, 1) := by decide +kernel
theorem dX3_ripeBy_35 : decode cX3_ripeBy 35 = .ok (.ireturn, 1) := by decide +kernel
theorem dX0_readyHere_0 : decode cX0_readyHere 0 = .ok (.aload_n 0, 1) := by decide +kernel
theorem dX0_readyHere_1 : decode cX0_readyHere 1 = .ok (.getfield 21, 3) := by decide +kernel
theorem dX0_readyHere_4 : decode cX0_readyHere 4 = .ok (.getfield 53, 3) := by decide +kernel
theorem dX0_readyHere_7 : decode cX0_readyHere 7 = .ok (.iconst (-1), 1) := by decide +kernel
theorem dX0_readyHere_8 : decode cX0_readyHere 8 = .ok (.if_icmp .ne 5, 3) := by decide +kernel
theorem dX0_readyHere_11 : decode cX0_readyHere 11 = .ok (.iconst 0, 1) := by decide +kernel
theorem dX0_readyHere_12 : decode cX0_readyHere 12 = .ok (.ireturn, 1) := by decide +kernel
theorem dX0_readyHere_13 : decode cX0_readyHere 13 = .ok (.aload_n 0, 1) := by decide +kernel
theorem dX0_readyHere_14 : decode cX0_readyHere 14 = .ok (.getfield 12, 3) := by decide +kernel
theorem dX0_readyHere_17 : decode cX0_readyHere 17 = .ok (.aload_n 0, 1) := by decide +kernel
theorem dX0_readyHere_18 : decode cX0_readyHere 18 = .ok (.getfield 21, 3) := by decide +kernel
theorem dX0_readyHere_21 : decode cX0_readyHere 21 = .ok (.getfield 53, 3) := by decide +kernel
theorem dX0_readyHere_24 : decode cX0_readyHere 24 = .ok (.aload_n 0, 1) := by decide +kernel
theorem dX0_readyHere_25 : decode cX0_readyHere 25 = .ok (.getfield 12, 3) := by decide +kernel
theorem dX0_readyHere_28 : decode cX0_readyHere 28 = .ok (.aload_n 0, 1) := by decide +kernel
theorem dX0_readyHere_29 : decode cX0_readyHere 29 = .ok (.getfield 21, 3) := by decide +kernel
theorem dX0_readyHere_32 : decode cX0_readyHere 32 = .ok (.getfield 56, 3) := by decide +kernel
theorem dX0_readyHere_35 : decode cX0_readyHere 35 = .ok (.iconst 0, 1) := by decide +kernel
theorem dX0_readyHere_36 : decode cX0_readyHere 36 = .ok (.invokevirtual 59, 3) := by decide +kernel
theorem dX0_readyHere_39 : decode cX0_readyHere 39 = .ok (.invokevirtual 62, 3) := by decide +kernel
theorem dX0_readyHere_42 : decode cX0_readyHere 42 = .ok (.istore_n 1, 1) := by decide +kernel
theorem dX0_readyHere_43 : decode cX0_readyHere 43 = .ok (.aload_n 0, 1) := by decide +kernel
theorem dX0_readyHere_44 : decode cX0_readyHere 44 = .ok (.invokevirtual 65, 3) := by decide +kernel
theorem dX0_readyHere_47 : decode cX0_readyHere 47 = .ok (.aload_n 0, 1) := by decide +kernel
theorem dX0_readyHere_48 : decode cX0_readyHere 48 = .ok (.getfield 12, 3) := by decide +kernel
theorem dX0_readyHere_51 : decode cX0_readyHere 51 = .ok (.aload_n 0, 1) := by decide +kernel
theorem dX0_readyHere_52 : decode cX0_readyHere 52 = .ok (.getfield 21, 3) := by decide +kernel
theorem dX0_readyHere_55 : decode cX0_readyHere 55 = .ok (.getfield 68, 3) := by decide +kernel
theorem dX0_readyHere_58 : decode cX0_readyHere 58 = .ok (.invokevirtual 71, 3) := by decide +kernel
theorem dX0_readyHere_61 : decode cX0_readyHere 61 = .ok (.iand, 1) := by decide +kernel
theorem dX0_readyHere_62 : decode cX0_readyHere 62 = .ok (.iload_n 1, 1) := by decide +kernel
theorem dX0_readyHere_63 : decode cX0_readyHere 63 = .ok (.iand, 1) := by decide +kernel
theorem dX0_readyHere_64 : decode cX0_readyHere 64 = .ok (.ireturn, 1) := by decide +kernel
theorem dX0_shakeTree_0 : decode cX0_shakeTree 0 = .ok (.aload_n 0, 1) := by decide +kernel
theorem dX0_shakeTree_1 : decode cX0_shakeTree 1 = .ok (.getfield 21, 3) := by decide +kernel
theorem dX0_shakeTree_4 : decode cX0_shakeTree 4 = .ok (.getfield 53, 3) := by decide +kernel
theorem dX0_shakeTree_7 : decode cX0_shakeTree 7 = .ok (.iconst (-1), 1) := by decide +kernel
theorem dX0_shakeTree_8 : decode cX0_shakeTree 8 = .ok (.if_icmp .ne 6, 3) := by decide +kernel
theorem dX0_shakeTree_11 : decode cX0_shakeTree 11 = .ok (.bipush (-2), 2) := by decide +kernel
theorem dX0_shakeTree_13 : decode cX0_shakeTree 13 = .ok (.ireturn, 1) := by decide +kernel
theorem dX0_shakeTree_14 : decode cX0_shakeTree 14 = .ok (.aload_n 0, 1) := by decide +kernel
theorem dX0_shakeTree_15 : decode cX0_shakeTree 15 = .ok (.invokevirtual 65, 3) := by decide +kernel
theorem dX0_shakeTree_18 : decode cX0_shakeTree 18 = .ok (.istore_n 1, 1) := by decide +kernel
theorem dX0_shakeTree_19 : decode cX0_shakeTree 19 = .ok (.aload_n 0, 1) := by decide +kernel
theorem dX0_shakeTree_20 : decode cX0_shakeTree 20 = .ok (.invokevirtual 149, 3) := by decide +kernel
theorem dX0_shakeTree_23 : decode cX0_shakeTree 23 = .ok (.istore_n 2, 1) := by decide +kernel
theorem dX0_shakeTree_24 : decode cX0_shakeTree 24 = .ok (.iload_n 2, 1) := by decide +kernel
theorem dX0_shakeTree_25 : decode cX0_shakeTree 25 = .ok (.istore_n 3, 1) := by decide +kernel
theorem dX0_shakeTree_26 : decode cX0_shakeTree 26 = .ok (.iconst 0, 1) := by decide +kernel
theorem dX0_shakeTree_27 : decode cX0_shakeTree 27 = .ok (.istore 4, 2) := by decide +kernel
theorem dX0_shakeTree_29 : decode cX0_shakeTree 29 = .ok (.iload 4, 2) := by decide +kernel
theorem dX0_shakeTree_31 : decode cX0_shakeTree 31 = .ok (.aload_n 0, 1) := by decide +kernel
theorem dX0_shakeTree_32 : decode cX0_shakeTree 32 = .ok (.getfield 12, 3) := by decide +kernel
theorem dX0_shakeTree_35 : decode cX0_shakeTree 35 = .ok (.getfield 152, 3) := by decide +kernel
theorem dX0_shakeTree_38 : decode cX0_shakeTree 38 = .ok (.if_icmp .ge 31, 3) := by decide +kernel
theorem dX0_shakeTree_41 : decode cX0_shakeTree 41 = .ok (.iload_n 2, 1) := by decide +kernel
theorem dX0_shakeTree_42 : decode cX0_shakeTree 42 = .ok (.iload 4, 2) := by decide +kernel
theorem dX0_shakeTree_44 : decode cX0_shakeTree 44 = .ok (.ishr, 1) := by decide +kernel
theorem dX0_shakeTree_45 : decode cX0_shakeTree 45 = .ok (.iconst 1, 1) := by decide +kernel
theorem dX0_shakeTree_46 : decode cX0_shakeTree 46 = .ok (.iand, 1) := by decide +kernel
theorem dX0_shakeTree_47 : decode cX0_shakeTree 47 = .ok (.ifCond .eq 16, 3) := by decide +kernel
theorem dX0_shakeTree_50 : decode cX0_shakeTree 50 = .ok (.iload_n 3, 1) := by decide +kernel
theorem dX0_shakeTree_51 : decode cX0_shakeTree 51 = .ok (.aload_n 0, 1) := by decide +kernel
theorem dX0_shakeTree_52 : decode cX0_shakeTree 52 = .ok (.getfield 12, 3) := by decide +kernel
theorem dX0_shakeTree_55 : decode cX0_shakeTree 55 = .ok (.iload 4, 2) := by decide +kernel
theorem dX0_shakeTree_57 : decode cX0_shakeTree 57 = .ok (.iload_n 1, 1) := by decide +kernel
theorem dX0_shakeTree_58 : decode cX0_shakeTree 58 = .ok (.invokevirtual 146, 3) := by decide +kernel
theorem dX0_shakeTree_61 : decode cX0_shakeTree 61 = .ok (.ior, 1) := by decide +kernel
theorem dX0_shakeTree_62 : decode cX0_shakeTree 62 = .ok (.istore_n 3, 1) := by decide +kernel
theorem dX0_shakeTree_63 : decode cX0_shakeTree 63 = .ok (.iinc 4 1, 3) := by decide +kernel
theorem dX0_shakeTree_66 : decode cX0_shakeTree 66 = .ok (.goto (-37), 3) := by decide +kernel
theorem dX0_shakeTree_69 : decode cX0_shakeTree 69 = .ok (.aload_n 0, 1) := by decide +kernel
theorem dX0_shakeTree_70 : decode cX0_shakeTree 70 = .ok (.getfield 21, 3) := by decide +kernel
theorem dX0_shakeTree_73 : decode cX0_shakeTree 73 = .ok (.dup, 1) := by decide +kernel
theorem dX0_shakeTree_74 : decode cX0_shakeTree 74 = .ok (.getfield 43, 3) := by decide +kernel
theorem dX0_shakeTree_77 : decode cX0_shakeTree 77 = .ok (.iload_n 2, 1) := by decide +kernel
theorem dX0_shakeTree_78 : decode cX0_shakeTree 78 = .ok (.ior, 1) := by decide +kernel
theorem dX0_shakeTree_79 : decode cX0_shakeTree 79 = .ok (.putfield 43, 3) := by decide +kernel
theorem dX0_shakeTree_82 : decode cX0_shakeTree 82 = .ok (.aload_n 0, 1) := by decide +kernel
theorem dX0_shakeTree_83 : decode cX0_shakeTree 83 = .ok (.getfield 21, 3) := by decide +kernel
theorem dX0_shakeTree_86 : decode cX0_shakeTree 86 = .ok (.dup, 1) := by decide +kernel
theorem dX0_shakeTree_87 : decode cX0_shakeTree 87 = .ok (.getfield 46, 3) := by decide +kernel
theorem dX0_shakeTree_90 : decode cX0_shakeTree 90 = .ok (.iload_n 3, 1) := by decide +kernel
theorem dX0_shakeTree_91 : decode cX0_shakeTree 91 = .ok (.ior, 1) := by decide +kernel
theorem dX0_shakeTree_92 : decode cX0_shakeTree 92 = .ok (.putfield 46, 3) := by decide +kernel
theorem dX0_shakeTree_95 : decode cX0_shakeTree 95 = .ok (.aload_n 0, 1) := by decide +kernel
theorem dX0_shakeTree_96 : decode cX0_shakeTree 96 = .ok (.getfield 21, 3) := by decide +kernel
theorem dX0_shakeTree_99 : decode cX0_shakeTree 99 = .ok (.iconst 5, 1) := by decide +kernel
theorem dX0_shakeTree_100 : decode cX0_shakeTree 100 = .ok (.invokevirtual 117, 3) := by decide +kernel
theorem dX0_shakeTree_103 : decode cX0_shakeTree 103 = .ok (.iload_n 2, 1) := by decide +kernel
theorem dX0_shakeTree_104 : decode cX0_shakeTree 104 = .ok (.invokestatic 134, 3) := by decide +kernel
theorem dX0_shakeTree_107 : decode cX0_shakeTree 107 = .ok (.ireturn, 1) := by decide +kernel
theorem dX9_shake_0 : decode cX9_shake 0 = .ok (.aload_n 0, 1) := by decide +kernel
theorem dX9_shake_1 : decode cX9_shake 1 = .ok (.getfield 43, 3) := by decide +kernel
theorem dX9_shake_4 : decode cX9_shake 4 = .ok (.aload_n 0, 1) := by decide +kernel
theorem dX9_shake_5 : decode cX9_shake 5 = .ok (.getfield 39, 3) := by decide +kernel
theorem dX9_shake_8 : decode cX9_shake 8 = .ok (.invokevirtual 175, 3) := by decide +kernel
theorem dX9_shake_11 : decode cX9_shake 11 = .ok (.aload_n 0, 1) := by decide +kernel
theorem dX9_shake_12 : decode cX9_shake 12 = .ok (.aload_n 0, 1) := by decide +kernel
theorem dX9_shake_13 : decode cX9_shake 13 = .ok (.getfield 27, 3) := by decide +kernel
theorem dX9_shake_16 : decode cX9_shake 16 = .ok (.invokevirtual 194, 3) := by decide +kernel
theorem dX9_shake_19 : decode cX9_shake 19 = .ok (.invokevirtual 182, 3) := by decide +kernel
theorem dX9_shake_22 : decode cX9_shake 22 = .ok (.ireturn, 1) := by decide +kernel
theorem dX0_sleepOver_0 : decode cX0_sleepOver 0 = .ok (.aload_n 0, 1) := by decide +kernel
theorem dX0_sleepOver_1 : decode cX0_sleepOver 1 = .ok (.getfield 21, 3) := by decide +kernel
theorem dX0_sleepOver_4 : decode cX0_sleepOver 4 = .ok (.getfield 68, 3) := by decide +kernel
theorem dX0_sleepOver_7 : decode cX0_sleepOver 7 = .ok (.bipush 9, 2) := by decide +kernel
theorem dX0_sleepOver_9 : decode cX0_sleepOver 9 = .ok (.if_icmp .lt 5, 3) := by decide +kernel
theorem dX0_sleepOver_12 : decode cX0_sleepOver 12 = .ok (.iconst (-1), 1) := by decide +kernel
theorem dX0_sleepOver_13 : decode cX0_sleepOver 13 = .ok (.ireturn, 1) := by decide +kernel
theorem dX0_sleepOver_14 : decode cX0_sleepOver 14 = .ok (.aload_n 0, 1) := by decide +kernel
theorem dX0_sleepOver_15 : decode cX0_sleepOver 15 = .ok (.getfield 21, 3) := by decide +kernel
