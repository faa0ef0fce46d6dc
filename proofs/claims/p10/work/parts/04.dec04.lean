theorem dX9_day_4 : decode cX9_day 4 = .ok (.bipush 60, 2) := by decide +kernel
theorem dX9_day_6 : decode cX9_day 6 = .ok (.invokevirtual 73, 3) := by decide +kernel
theorem dX9_day_9 : decode cX9_day 9 = .ok (.aload_n 0, 1) := by decide +kernel
theorem dX9_day_10 : decode cX9_day 10 = .ok (.getfield 10, 3) := by decide +kernel
theorem dX9_day_13 : decode cX9_day 13 = .ok (.getfield 77, 3) := by decide +kernel
theorem dX9_day_16 : decode cX9_day 16 = .ok (.ifCond .ne 7, 3) := by decide +kernel
theorem dX9_day_19 : decode cX9_day 19 = .ok (.iconst 0, 1) := by decide +kernel
theorem dX9_day_20 : decode cX9_day 20 = .ok (.goto 7, 3) := by decide +kernel
theorem dX9_day_23 : decode cX9_day 23 = .ok (.aload_n 0, 1) := by decide +kernel
theorem dX9_day_24 : decode cX9_day 24 = .ok (.invokevirtual 200, 3) := by decide +kernel
theorem dX9_day_27 : decode cX9_day 27 = .ok (.istore_n 1, 1) := by decide +kernel
theorem dX9_day_28 : decode cX9_day 28 = .ok (.iload_n 1, 1) := by decide +kernel
theorem dX9_day_29 : decode cX9_day 29 = .ok (.iconst (-1), 1) := by decide +kernel
theorem dX9_day_30 : decode cX9_day 30 = .ok (.if_icmp .eq 17, 3) := by decide +kernel
theorem dX9_day_33 : decode cX9_day 33 = .ok (.aload_n 0, 1) := by decide +kernel
theorem dX9_day_34 : decode cX9_day 34 = .ok (.getfield 10, 3) := by decide +kernel
theorem dX9_day_37 : decode cX9_day 37 = .ok (.invokevirtual 87, 3) := by decide +kernel
theorem dX9_day_40 : decode cX9_day 40 = .ok (.ifCond .eq 7, 3) := by decide +kernel
theorem dX9_day_43 : decode cX9_day 43 = .ok (.iconst 1, 1) := by decide +kernel
theorem dX9_day_44 : decode cX9_day 44 = .ok (.goto 4, 3) := by decide +kernel
theorem dX9_day_47 : decode cX9_day 47 = .ok (.iconst 0, 1) := by decide +kernel
theorem dX9_day_48 : decode cX9_day 48 = .ok (.istore_n 2, 1) := by decide +kernel
theorem dX9_day_49 : decode cX9_day 49 = .ok (.iload_n 2, 1) := by decide +kernel
theorem dX9_day_50 : decode cX9_day 50 = .ok (.ifCond .eq 11, 3) := by decide +kernel
theorem dX9_day_53 : decode cX9_day 53 = .ok (.aload_n 0, 1) := by decide +kernel
theorem dX9_day_54 : decode cX9_day 54 = .ok (.iload_n 1, 1) := by decide +kernel
theorem dX9_day_55 : decode cX9_day 55 = .ok (.invokevirtual 203, 3) := by decide +kernel
theorem dX9_day_58 : decode cX9_day 58 = .ok (.goto 10, 3) := by decide +kernel
theorem dX9_day_61 : decode cX9_day 61 = .ok (.aload_n 0, 1) := by decide +kernel
theorem dX9_day_62 : decode cX9_day 62 = .ok (.getfield 10, 3) := by decide +kernel
theorem dX9_day_65 : decode cX9_day 65 = .ok (.invokevirtual 91, 3) := by decide +kernel
theorem dX9_day_68 : decode cX9_day 68 = .ok (.istore_n 3, 1) := by decide +kernel
theorem dX9_day_69 : decode cX9_day 69 = .ok (.aload_n 0, 1) := by decide +kernel
theorem dX9_day_70 : decode cX9_day 70 = .ok (.getfield 10, 3) := by decide +kernel
theorem dX9_day_73 : decode cX9_day 73 = .ok (.invokevirtual 101, 3) := by decide +kernel
theorem dX9_day_76 : decode cX9_day 76 = .ok (.iload_n 3, 1) := by decide +kernel
theorem dX9_day_77 : decode cX9_day 77 = .ok (.ireturn, 1) := by decide +kernel
theorem dX2_read_0 : decode cX2_read 0 = .ok (.iload_n 2, 1) := by decide +kernel
theorem dX2_read_1 : decode cX2_read 1 = .ok (.ifCond .lt 12, 3) := by decide +kernel
theorem dX2_read_4 : decode cX2_read 4 = .ok (.iload_n 2, 1) := by decide +kernel
theorem dX2_read_5 : decode cX2_read 5 = .ok (.aload_n 1, 1) := by decide +kernel
theorem dX2_read_6 : decode cX2_read 6 = .ok (.arraylength, 1) := by decide +kernel
theorem dX2_read_7 : decode cX2_read 7 = .ok (.bipush 8, 2) := by decide +kernel
theorem dX2_read_9 : decode cX2_read 9 = .ok (.isub, 1) := by decide +kernel
theorem dX2_read_10 : decode cX2_read 10 = .ok (.if_icmp .le 4, 3) := by decide +kernel
theorem dX2_read_13 : decode cX2_read 13 = .ok (.return_, 1) := by decide +kernel
theorem dX2_read_14 : decode cX2_read 14 = .ok (.aload_n 0, 1) := by decide +kernel
theorem dX2_read_15 : decode cX2_read 15 = .ok (.aload_n 1, 1) := by decide +kernel
theorem dX2_read_16 : decode cX2_read 16 = .ok (.iload_n 2, 1) := by decide +kernel
theorem dX2_read_17 : decode cX2_read 17 = .ok (.iaload, 1) := by decide +kernel
theorem dX2_read_18 : decode cX2_read 18 = .ok (.putfield 15, 3) := by decide +kernel
theorem dX2_read_21 : decode cX2_read 21 = .ok (.aload_n 0, 1) := by decide +kernel
theorem dX2_read_22 : decode cX2_read 22 = .ok (.aload_n 1, 1) := by decide +kernel
theorem dX2_read_23 : decode cX2_read 23 = .ok (.iload_n 2, 1) := by decide +kernel
theorem dX2_read_24 : decode cX2_read 24 = .ok (.iconst 1, 1) := by decide +kernel
theorem dX2_read_25 : decode cX2_read 25 = .ok (.iadd, 1) := by decide +kernel
theorem dX2_read_26 : decode cX2_read 26 = .ok (.iaload, 1) := by decide +kernel
theorem dX2_read_27 : decode cX2_read 27 = .ok (.putfield 18, 3) := by decide +kernel
theorem dX2_read_30 : decode cX2_read 30 = .ok (.aload_n 0, 1) := by decide +kernel
theorem dX2_read_31 : decode cX2_read 31 = .ok (.aload_n 1, 1) := by decide +kernel
theorem dX2_read_32 : decode cX2_read 32 = .ok (.iload_n 2, 1) := by decide +kernel
theorem dX2_read_33 : decode cX2_read 33 = .ok (.iconst 2, 1) := by decide +kernel
theorem dX2_read_34 : decode cX2_read 34 = .ok (.iadd, 1) := by decide +kernel
theorem dX2_read_35 : decode cX2_read 35 = .ok (.iaload, 1) := by decide +kernel
theorem dX2_read_36 : decode cX2_read 36 = .ok (.putfield 21, 3) := by decide +kernel
theorem dX2_read_39 : decode cX2_read 39 = .ok (.aload_n 0, 1) := by decide +kernel
theorem dX2_read_40 : decode cX2_read 40 = .ok (.aload_n 1, 1) := by decide +kernel
theorem dX2_read_41 : decode cX2_read 41 = .ok (.iload_n 2, 1) := by decide +kernel
theorem dX2_read_42 : decode cX2_read 42 = .ok (.iconst 3, 1) := by decide +kernel
theorem dX2_read_43 : decode cX2_read 43 = .ok (.iadd, 1) := by decide +kernel
theorem dX2_read_44 : decode cX2_read 44 = .ok (.iaload, 1) := by decide +kernel
theorem dX2_read_45 : decode cX2_read 45 = .ok (.putfield 33, 3) := by decide +kernel
theorem dX2_read_48 : decode cX2_read 48 = .ok (.aload_n 0, 1) := by decide +kernel
theorem dX2_read_49 : decode cX2_read 49 = .ok (.aload_n 1, 1) := by decide +kernel
theorem dX2_read_50 : decode cX2_read 50 = .ok (.iload_n 2, 1) := by decide +kernel
theorem dX2_read_51 : decode cX2_read 51 = .ok (.iconst 4, 1) := by decide +kernel
theorem dX2_read_52 : decode cX2_read 52 = .ok (.iadd, 1) := by decide +kernel
theorem dX2_read_53 : decode cX2_read 53 = .ok (.iaload, 1) := by decide +kernel
theorem dX2_read_54 : decode cX2_read 54 = .ok (.putfield 9, 3) := by decide +kernel
theorem dX2_read_57 : decode cX2_read 57 = .ok (.aload_n 0, 1) := by decide +kernel
theorem dX2_read_58 : decode cX2_read 58 = .ok (.aload_n 1, 1) := by decide +kernel
theorem dX2_read_59 : decode cX2_read 59 = .ok (.iload_n 2, 1) := by decide +kernel
theorem dX2_read_60 : decode cX2_read 60 = .ok (.iconst 5, 1) := by decide +kernel
theorem dX2_read_61 : decode cX2_read 61 = .ok (.iadd, 1) := by decide +kernel
theorem dX2_read_62 : decode cX2_read 62 = .ok (.iaload, 1) := by decide +kernel
theorem dX2_read_63 : decode cX2_read 63 = .ok (.putfield 36, 3) := by decide +kernel
theorem dX2_read_66 : decode cX2_read 66 = .ok (.aload_n 0, 1) := by decide +kernel
theorem dX2_read_67 : decode cX2_read 67 = .ok (.aload_n 1, 1) := by decide +kernel
theorem dX2_read_68 : decode cX2_read 68 = .ok (.iload_n 2, 1) := by decide +kernel
theorem dX2_read_69 : decode cX2_read 69 = .ok (.bipush 6, 2) := by decide +kernel
theorem dX2_read_71 : decode cX2_read 71 = .ok (.iadd, 1) := by decide +kernel
theorem dX2_read_72 : decode cX2_read 72 = .ok (.iaload, 1) := by decide +kernel
theorem dX2_read_73 : decode cX2_read 73 = .ok (.putfield 39, 3) := by decide +kernel
theorem dX2_read_76 : decode cX2_read 76 = .ok (.aload_n 0, 1) := by decide +kernel
theorem dX2_read_77 : decode cX2_read 77 = .ok (.aload_n 1, 1) := by decide +kernel
theorem dX2_read_78 : decode cX2_read 78 = .ok (.iload_n 2, 1) := by decide +kernel
theorem dX2_read_79 : decode cX2_read 79 = .ok (.bipush 7, 2) := by decide +kernel
theorem dX2_read_81 : decode cX2_read 81 = .ok (.iadd, 1) := by decide +kernel
theorem dX2_read_82 : decode cX2_read 82 = .ok (.iaload, 1) := by decide +kernel
theorem dX2_read_83 : decode cX2_read 83 = .ok (.putfield 24, 3) := by decide +kernel
theorem dX2_read_86 : decode cX2_read 86 = .ok (.return_, 1) := by decide +kernel
theorem dX4_goBack_0 : decode cX4_goBack 0 = .ok (.aload_n 0, 1) := by decide +kernel
theorem dX4_goBack_1 : decode cX4_goBack 1 = .ok (.aload_n 0, 1) := by decide +kernel
theorem dX4_goBack_2 : decode cX4_goBack 2 = .ok (.getfield 22, 3) := by decide +kernel
theorem dX4_goBack_5 : decode cX4_goBack 5 = .ok (.bipush 13, 2) := by decide +kernel
theorem dX4_goBack_7 : decode cX4_goBack 7 = .ok (.iadd, 1) := by decide +kernel
theorem dX4_goBack_8 : decode cX4_goBack 8 = .ok (.iconst 1, 1) := by decide +kernel
theorem dX4_goBack_9 : decode cX4_goBack 9 = .ok (.isub, 1) := by decide +kernel
theorem dX4_goBack_10 : decode cX4_goBack 10 = .ok (.bipush 13, 2) := by decide +kernel
theorem dX4_goBack_12 : decode cX4_goBack 12 = .ok (.irem, 1) := by decide +kernel
theorem dX4_goBack_13 : decode cX4_goBack 13 = .ok (.putfield 22, 3) := by decide +kernel
theorem dX4_goBack_16 : decode cX4_goBack 16 = .ok (.aload_n 0, 1) := by decide +kernel
theorem dX4_goBack_17 : decode cX4_goBack 17 = .ok (.dup, 1) := by decide +kernel
theorem dX4_goBack_18 : decode cX4_goBack 18 = .ok (.getfield 30, 3) := by decide +kernel
theorem dX4_goBack_21 : decode cX4_goBack 21 = .ok (.iconst 1, 1) := by decide +kernel
theorem dX4_goBack_22 : decode cX4_goBack 22 = .ok (.isub, 1) := by decide +kernel
theorem dX4_goBack_23 : decode cX4_goBack 23 = .ok (.putfield 30, 3) := by decide +kernel
theorem dX4_goBack_26 : decode cX4_goBack 26 = .ok (.aload_n 1, 1) := by decide +kernel
theorem dX4_goBack_27 : decode cX4_goBack 27 = .ok (.aload_n 0, 1) := by decide +kernel
theorem dX4_goBack_28 : decode cX4_goBack 28 = .ok (.getfield 11, 3) := by decide +kernel
theorem dX4_goBack_31 : decode cX4_goBack 31 = .ok (.aload_n 0, 1) := by decide +kernel
theorem dX4_goBack_32 : decode cX4_goBack 32 = .ok (.getfield 22, 3) := by decide +kernel
theorem dX4_goBack_35 : decode cX4_goBack 35 = .ok (.bipush 8, 2) := by decide +kernel
theorem dX4_goBack_37 : decode cX4_goBack 37 = .ok (.imul, 1) := by decide +kernel
theorem dX4_goBack_38 : decode cX4_goBack 38 = .ok (.invokevirtual 39, 3) := by decide +kernel
theorem dX4_goBack_41 : decode cX4_goBack 41 = .ok (.return_, 1) := by decide +kernel
theorem dX9_undo_0 : decode cX9_undo 0 = .ok (.aload_n 0, 1) := by decide +kernel
theorem dX9_undo_1 : decode cX9_undo 1 = .ok (.getfield 43, 3) := by decide +kernel
theorem dX9_undo_4 : decode cX9_undo 4 = .ok (.getfield 206, 3) := by decide +kernel
theorem dX9_undo_7 : decode cX9_undo 7 = .ok (.ifCond .ne 5, 3) := by decide +kernel
theorem dX9_undo_10 : decode cX9_undo 10 = .ok (.iconst (-1), 1) := by decide +kernel
theorem dX9_undo_11 : decode cX9_undo 11 = .ok (.ireturn, 1) := by decide +kernel
theorem dX9_undo_12 : decode cX9_undo 12 = .ok (.aload_n 0, 1) := by decide +kernel
theorem dX9_undo_13 : decode cX9_undo 13 = .ok (.getfield 43, 3) := by decide +kernel
theorem dX9_undo_16 : decode cX9_undo 16 = .ok (.aload_n 0, 1) := by decide +kernel
theorem dX9_undo_17 : decode cX9_undo 17 = .ok (.getfield 39, 3) := by decide +kernel
theorem dX9_undo_20 : decode cX9_undo 20 = .ok (.invokevirtual 209, 3) := by decide +kernel
theorem dX9_undo_23 : decode cX9_undo 23 = .ok (.aload_n 0, 1) := by decide +kernel
theorem dX9_undo_24 : decode cX9_undo 24 = .ok (.getfield 43, 3) := by decide +kernel
theorem dX9_undo_27 : decode cX9_undo 27 = .ok (.getfield 206, 3) := by decide +kernel
theorem dX9_undo_30 : decode cX9_undo 30 = .ok (.ireturn, 1) := by decide +kernel
theorem dX9_reached_0 : decode cX9_reached 0 = .ok (.aload_n 0, 1) := by decide +kernel
theorem dX9_reached_1 : decode cX9_reached 1 = .ok (.getfield 34, 3) := by decide +kernel
theorem dX9_reached_4 : decode cX9_reached 4 = .ok (.iload_n 1, 1) := by decide +kernel
theorem dX9_reached_5 : decode cX9_reached 5 = .ok (.invokevirtual 150, 3) := by decide +kernel
theorem dX9_reached_8 : decode cX9_reached 8 = .ok (.ifCond .ne 5, 3) := by decide +kernel
theorem dX9_reached_11 : decode cX9_reached 11 = .ok (.iconst (-1), 1) := by decide +kernel
theorem dX9_reached_12 : decode cX9_reached 12 = .ok (.ireturn, 1) := by decide +kernel
theorem dX9_reached_13 : decode cX9_reached 13 = .ok (.aload_n 0, 1) := by decide +kernel
theorem dX9_reached_14 : decode cX9_reached 14 = .ok (.aload_n 0, 1) := by decide +kernel
theorem dX9_reached_15 : decode cX9_reached 15 = .ok (.getfield 34, 3) := by decide +kernel
theorem dX9_reached_18 : decode cX9_reached 18 = .ok (.iload_n 1, 1) := by decide +kernel
theorem dX9_reached_19 : decode cX9_reached 19 = .ok (.aload_n 0, 1) := by decide +kernel
theorem dX9_reached_20 : decode cX9_reached 20 = .ok (.getfield 34, 3) := by decide +kernel
theorem dX9_reached_23 : decode cX9_reached 23 = .ok (.iconst 1, 1) := by decide +kernel
theorem dX9_reached_24 : decode cX9_reached 24 = .ok (.iconst 0, 1) := by decide +kernel
theorem dX9_reached_25 : decode cX9_reached 25 = .ok (.invokevirtual 238, 3) := by decide +kernel
theorem dX9_reached_28 : decode cX9_reached 28 = .ok (.invokevirtual 241, 3) := by decide +kernel
theorem dX9_reached_31 : decode cX9_reached 31 = .ok (.aload_n 0, 1) := by decide +kernel
theorem dX9_reached_32 : decode cX9_reached 32 = .ok (.getfield 34, 3) := by decide +kernel
theorem dX9_reached_35 : decode cX9_reached 35 = .ok (.iload_n 1, 1) := by decide +kernel
theorem dX9_reached_36 : decode cX9_reached 36 = .ok (.aload_n 0, 1) := by decide +kernel
theorem dX9_reached_37 : decode cX9_reached 37 = .ok (.getfield 34, 3) := by decide +kernel
theorem dX9_reached_40 : decode cX9_reached 40 = .ok (.iconst 1, 1) := by decide +kernel
theorem dX9_reached_41 : decode cX9_reached 41 = .ok (.iconst 1, 1) := by decide +kernel
theorem dX9_reached_42 : decode cX9_reached 42 = .ok (.invokevirtual 238, 3) := by decide +kernel
theorem dX9_reached_45 : decode cX9_reached 45 = .ok (.invokevirtual 241, 3) := by decide +kernel
theorem dX9_reached_48 : decode cX9_reached 48 = .ok (.invokevirtual 234, 3) := by decide +kernel
theorem dX9_reached_51 : decode cX9_reached 51 = .ok (.aload_n 0, 1) := by decide +kernel
theorem dX9_reached_52 : decode cX9_reached 52 = .ok (.getfield 34, 3) := by decide +kernel
theorem dX9_reached_55 : decode cX9_reached 55 = .ok (.iload_n 1, 1) := by decide +kernel
theorem dX9_reached_56 : decode cX9_reached 56 = .ok (.aload_n 0, 1) := by decide +kernel
theorem dX9_reached_57 : decode cX9_reached 57 = .ok (.getfield 34, 3) := by decide +kernel
theorem dX9_reached_60 : decode cX9_reached 60 = .ok (.iconst 0, 1) := by decide +kernel
theorem dX9_reached_61 : decode cX9_reached 61 = .ok (.iconst 0, 1) := by decide +kernel
theorem dX9_reached_62 : decode cX9_reached 62 = .ok (.invokevirtual 238, 3) := by decide +kernel
theorem dX9_reached_65 : decode cX9_reached 65 = .ok (.invokevirtual 241, 3) := by decide +kernel
theorem dX9_reached_68 : decode cX9_reached 68 = .ok (.ireturn, 1) := by decide +kernel
theorem dX9_from_0 : decode cX9_from 0 = .ok (.aload_n 0, 1) := by decide +kernel
theorem dX9_from_1 : decode cX9_from 1 = .ok (.getfield 34, 3) := by decide +kernel
theorem dX9_from_4 : decode cX9_from 4 = .ok (.iload_n 1, 1) := by decide +kernel
theorem dX9_from_5 : decode cX9_from 5 = .ok (.invokevirtual 117, 3) := by decide +kernel
theorem dX9_from_8 : decode cX9_from 8 = .ok (.ifCond .eq 10, 3) := by decide +kernel
theorem dX9_from_11 : decode cX9_from 11 = .ok (.iload_n 2, 1) := by decide +kernel
theorem dX9_from_12 : decode cX9_from 12 = .ok (.invokestatic 244, 3) := by decide +kernel
theorem dX9_from_15 : decode cX9_from 15 = .ok (.ifCond .ne 5, 3) := by decide +kernel
theorem dX9_from_18 : decode cX9_from 18 = .ok (.iconst (-1), 1) := by decide +kernel
theorem dX9_from_19 : decode cX9_from 19 = .ok (.ireturn, 1) := by decide +kernel
theorem dX9_from_20 : decode cX9_from 20 = .ok (.aload_n 0, 1) := by decide +kernel
theorem dX9_from_21 : decode cX9_from 21 = .ok (.getfield 34, 3) := by decide +kernel
theorem dX9_from_24 : decode cX9_from 24 = .ok (.aload_n 0, 1) := by decide +kernel
theorem dX9_from_25 : decode cX9_from 25 = .ok (.getfield 39, 3) := by decide +kernel
theorem dX9_from_28 : decode cX9_from 28 = .ok (.getfield 247, 3) := by decide +kernel
theorem dX9_from_31 : decode cX9_from 31 = .ok (.iload_n 2, 1) := by decide +kernel
theorem dX9_from_32 : decode cX9_from 32 = .ok (.invokevirtual 238, 3) := by decide +kernel
theorem dX9_from_35 : decode cX9_from 35 = .ok (.istore_n 3, 1) := by decide +kernel
theorem dX9_from_36 : decode cX9_from 36 = .ok (.iconst 0, 1) := by decide +kernel
theorem dX9_from_37 : decode cX9_from 37 = .ok (.istore 4, 2) := by decide +kernel
theorem dX9_from_39 : decode cX9_from 39 = .ok (.iconst 0, 1) := by decide +kernel
theorem dX9_from_40 : decode cX9_from 40 = .ok (.istore 5, 2) := by decide +kernel
theorem dX9_from_42 : decode cX9_from 42 = .ok (.iload 5, 2) := by decide +kernel
theorem dX9_from_44 : decode cX9_from 44 = .ok (.aload_n 0, 1) := by decide +kernel
theorem dX9_from_45 : decode cX9_from 45 = .ok (.getfield 34, 3) := by decide +kernel
theorem dX9_from_48 : decode cX9_from 48 = .ok (.getfield 250, 3) := by decide +kernel
theorem dX9_from_51 : decode cX9_from 51 = .ok (.if_icmp .ge 32, 3) := by decide +kernel
theorem dX9_from_54 : decode cX9_from 54 = .ok (.aload_n 0, 1) := by decide +kernel
theorem dX9_from_55 : decode cX9_from 55 = .ok (.getfield 34, 3) := by decide +kernel
theorem dX9_from_58 : decode cX9_from 58 = .ok (.iload_n 1, 1) := by decide +kernel
theorem dX9_from_59 : decode cX9_from 59 = .ok (.iload 5, 2) := by decide +kernel
theorem dX9_from_61 : decode cX9_from 61 = .ok (.iload_n 3, 1) := by decide +kernel
theorem dX9_from_62 : decode cX9_from 62 = .ok (.invokevirtual 253, 3) := by decide +kernel
theorem dX9_from_65 : decode cX9_from 65 = .ok (.ifCond .eq 12, 3) := by decide +kernel
theorem dX9_from_68 : decode cX9_from 68 = .ok (.iload 4, 2) := by decide +kernel
theorem dX9_from_70 : decode cX9_from 70 = .ok (.iconst 1, 1) := by decide +kernel
theorem dX9_from_71 : decode cX9_from 71 = .ok (.iload 5, 2) := by decide +kernel
theorem dX9_from_73 : decode cX9_from 73 = .ok (.ishl, 1) := by decide +kernel
theorem dX9_from_74 : decode cX9_from 74 = .ok (.ior, 1) := by decide +kernel
theorem dX9_from_75 : decode cX9_from 75 = .ok (.istore 4, 2) := by decide +kernel
theorem dX9_from_77 : decode cX9_from 77 = .ok (.iinc 5 1, 3) := by decide +kernel
theorem dX9_from_80 : decode cX9_from 80 = .ok (.goto (-38), 3) := by decide +kernel
theorem dX9_from_83 : decode cX9_from 83 = .ok (.iload 4, 2) := by decide +kernel
theorem dX9_from_85 : decode cX9_from 85 = .ok (.ireturn, 1) := by decide +kernel
theorem dX9_never_0 : decode cX9_never 0 = .ok (.aload_n 0, 1) := by decide +kernel
theorem dX9_never_1 : decode cX9_never 1 = .ok (.getfield 27, 3) := by decide +kernel
theorem dX9_never_4 : decode cX9_never 4 = .ok (.invokevirtual 143, 3) := by decide +kernel
theorem dX9_never_7 : decode cX9_never 7 = .ok (.istore_n 1, 1) := by decide +kernel
theorem dX9_never_8 : decode cX9_never 8 = .ok (.iconst 0, 1) := by decide +kernel
theorem dX9_never_9 : decode cX9_never 9 = .ok (.istore_n 2, 1) := by decide +kernel
theorem dX9_never_10 : decode cX9_never 10 = .ok (.iload_n 2, 1) := by decide +kernel
theorem dX9_never_11 : decode cX9_never 11 = .ok (.aload_n 0, 1) := by decide +kernel
theorem dX9_never_12 : decode cX9_never 12 = .ok (.getfield 34, 3) := by decide +kernel
theorem dX9_never_15 : decode cX9_never 15 = .ok (.getfield 250, 3) := by decide +kernel
theorem dX9_never_18 : decode cX9_never 18 = .ok (.if_icmp .ge 31, 3) := by decide +kernel
theorem dX9_never_21 : decode cX9_never 21 = .ok (.iload_n 1, 1) := by decide +kernel
theorem dX9_never_22 : decode cX9_never 22 = .ok (.aload_n 0, 1) := by decide +kernel
theorem dX9_never_23 : decode cX9_never 23 = .ok (.getfield 34, 3) := by decide +kernel
theorem dX9_never_26 : decode cX9_never 26 = .ok (.iload_n 2, 1) := by decide +kernel
theorem dX9_never_27 : decode cX9_never 27 = .ok (.aload_n 0, 1) := by decide +kernel
theorem dX9_never_28 : decode cX9_never 28 = .ok (.getfield 34, 3) := by decide +kernel
theorem dX9_never_31 : decode cX9_never 31 = .ok (.iconst 1, 1) := by decide +kernel
theorem dX9_never_32 : decode cX9_never 32 = .ok (.iconst 1, 1) := by decide +kernel
theorem dX9_never_33 : decode cX9_never 33 = .ok (.invokevirtual 238, 3) := by decide +kernel
theorem dX9_never_36 : decode cX9_never 36 = .ok (.invokevirtual 241, 3) := by decide +kernel
theorem dX9_never_39 : decode cX9_never 39 = .ok (.iconst (-1), 1) := by decide +kernel
theorem dX9_never_40 : decode cX9_never 40 = .ok (.ixor, 1) := by decide +kernel
theorem dX9_never_41 : decode cX9_never 41 = .ok (.iand, 1) := by decide +kernel
theorem dX9_never_42 : decode cX9_never 42 = .ok (.istore_n 1, 1) := by decide +kernel
theorem dX9_never_43 : decode cX9_never 43 = .ok (.iinc 2 1, 3) := by decide +kernel
theorem dX9_never_46 : decode cX9_never 46 = .ok (.goto (-36), 3) := by decide +kernel
theorem dX9_never_49 : decode cX9_never 49 = .ok (.aload_n 0, 1) := by decide +kernel
theorem dX9_never_50 : decode cX9_never 50 = .ok (.aload_n 0, 1) := by decide +kernel
theorem dX9_never_51 : decode cX9_never 51 = .ok (.getfield 27, 3) := by decide +kernel
theorem dX9_never_54 : decode cX9_never 54 = .ok (.iload_n 1, 1) := by decide +kernel
theorem dX9_never_55 : decode cX9_never 55 = .ok (.invokevirtual 257, 3) := by decide +kernel
theorem dX9_never_58 : decode cX9_never 58 = .ok (.invokevirtual 260, 3) := by decide +kernel
theorem dX9_never_61 : decode cX9_never 61 = .ok (.iload_n 1, 1) := by decide +kernel
theorem dX9_never_62 : decode cX9_never 62 = .ok (.ireturn, 1) := by decide +kernel
theorem dX9_seconds_0 : decode cX9_seconds 0 = .ok (.aload_n 0, 1) := by decide +kernel
theorem dX9_seconds_1 : decode cX9_seconds 1 = .ok (.getfield 34, 3) := by decide +kernel
theorem dX9_seconds_4 : decode cX9_seconds 4 = .ok (.iload_n 1, 1) := by decide +kernel
theorem dX9_seconds_5 : decode cX9_seconds 5 = .ok (.invokevirtual 117, 3) := by decide +kernel
theorem dX9_seconds_8 : decode cX9_seconds 8 = .ok (.ifCond .eq 21, 3) := by decide +kernel
theorem dX9_seconds_11 : decode cX9_seconds 11 = .ok (.aload_n 0, 1) := by decide +kernel
theorem dX9_seconds_12 : decode cX9_seconds 12 = .ok (.getfield 34, 3) := by decide +kernel
theorem dX9_seconds_15 : decode cX9_seconds 15 = .ok (.iload_n 2, 1) := by decide +kernel
theorem dX9_seconds_16 : decode cX9_seconds 16 = .ok (.invokevirtual 150, 3) := by decide +kernel
theorem dX9_seconds_19 : decode cX9_seconds 19 = .ok (.ifCond .eq 10, 3) := by decide +kernel
theorem dX9_seconds_22 : decode cX9_seconds 22 = .ok (.iload_n 3, 1) := by decide +kernel
theorem dX9_seconds_23 : decode cX9_seconds 23 = .ok (.invokestatic 244, 3) := by decide +kernel
theorem dX9_seconds_26 : decode cX9_seconds 26 = .ok (.ifCond .ne 5, 3) := by decide +kernel
theorem dX9_seconds_29 : decode cX9_seconds 29 = .ok (.iconst (-1), 1) := by decide +kernel
theorem dX9_seconds_30 : decode cX9_seconds 30 = .ok (.ireturn, 1) := by decide +kernel
theorem dX9_seconds_31 : decode cX9_seconds 31 = .ok (.aload_n 0, 1) := by decide +kernel
theorem dX9_seconds_32 : decode cX9_seconds 32 = .ok (.getfield 34, 3) := by decide +kernel
theorem dX9_seconds_35 : decode cX9_seconds 35 = .ok (.iload_n 1, 1) := by decide +kernel
theorem dX9_seconds_36 : decode cX9_seconds 36 = .ok (.iload_n 2, 1) := by decide +kernel
theorem dX9_seconds_37 : decode cX9_seconds 37 = .ok (.aload_n 0, 1) := by decide +kernel
theorem dX9_seconds_38 : decode cX9_seconds 38 = .ok (.getfield 34, 3) := by decide +kernel
theorem dX9_seconds_41 : decode cX9_seconds 41 = .ok (.aload_n 0, 1) := by decide +kernel
theorem dX9_seconds_42 : decode cX9_seconds 42 = .ok (.getfield 39, 3) := by decide +kernel
theorem dX9_seconds_45 : decode cX9_seconds 45 = .ok (.getfield 247, 3) := by decide +kernel
theorem dX9_seconds_48 : decode cX9_seconds 48 = .ok (.iload_n 3, 1) := by decide +kernel
theorem dX9_seconds_49 : decode cX9_seconds 49 = .ok (.invokevirtual 238, 3) := by decide +kernel
theorem dX9_seconds_52 : decode cX9_seconds 52 = .ok (.invokevirtual 253, 3) := by decide +kernel
theorem dX9_seconds_55 : decode cX9_seconds 55 = .ok (.ifCond .ne 6, 3) := by decide +kernel
theorem dX9_seconds_58 : decode cX9_seconds 58 = .ok (.bipush (-2), 2) := by decide +kernel
theorem dX9_seconds_60 : decode cX9_seconds 60 = .ok (.ireturn, 1) := by decide +kernel
theorem dX9_seconds_61 : decode cX9_seconds 61 = .ok (.aload_n 0, 1) := by decide +kernel
theorem dX9_seconds_62 : decode cX9_seconds 62 = .ok (.getfield 27, 3) := by decide +kernel
theorem dX9_seconds_65 : decode cX9_seconds 65 = .ok (.iload_n 1, 1) := by decide +kernel
theorem dX9_seconds_66 : decode cX9_seconds 66 = .ok (.iload_n 2, 1) := by decide +kernel
theorem dX9_seconds_67 : decode cX9_seconds 67 = .ok (.iload_n 3, 1) := by decide +kernel
theorem dX9_seconds_68 : decode cX9_seconds 68 = .ok (.iconst 0, 1) := by decide +kernel
theorem dX9_seconds_69 : decode cX9_seconds 69 = .ok (.invokevirtual 262, 3) := by decide +kernel
theorem dX9_seconds_72 : decode cX9_seconds 72 = .ok (.ireturn, 1) := by decide +kernel
theorem dX3_allStandings_0 : decode cX3_allStandings 0 = .ok (.iconst 1, 1) := by decide +kernel
theorem dX3_allStandings_1 : decode cX3_allStandings 1 = .ok (.aload_n 0, 1) := by decide +kernel
theorem dX3_allStandings_2 : decode cX3_allStandings 2 = .ok (.getfield 37, 3) := by decide +kernel
theorem dX3_allStandings_5 : decode cX3_allStandings 5 = .ok (.ishl, 1) := by decide +kernel
theorem dX3_allStandings_6 : decode cX3_allStandings 6 = .ok (.iconst 1, 1) := by decide +kernel
theorem dX3_allStandings_7 : decode cX3_allStandings 7 = .ok (.isub, 1) := by decide +kernel
theorem dX3_allStandings_8 : decode cX3_allStandings 8 = .ok (.ireturn, 1) := by decide +kernel
theorem dX5_reachedBy_0 : decode cX5_reachedBy 0 = .ok (.iconst 0, 1) := by decide +kernel
theorem dX5_reachedBy_1 : decode cX5_reachedBy 1 = .ok (.istore_n 2, 1) := by decide +kernel
theorem dX5_reachedBy_2 : decode cX5_reachedBy 2 = .ok (.iconst 0, 1) := by decide +kernel
theorem dX5_reachedBy_3 : decode cX5_reachedBy 3 = .ok (.istore_n 3, 1) := by decide +kernel
theorem dX5_reachedBy_4 : decode cX5_reachedBy 4 = .ok (.iload_n 3, 1) := by decide +kernel
theorem dX5_reachedBy_5 : decode cX5_reachedBy 5 = .ok (.aload_n 0, 1) := by decide +kernel
theorem dX5_reachedBy_6 : decode cX5_reachedBy 6 = .ok (.getfield 24, 3) := by decide +kernel
theorem dX5_reachedBy_9 : decode cX5_reachedBy 9 = .ok (.getfield 64, 3) := by decide +kernel
theorem dX5_reachedBy_12 : decode cX5_reachedBy 12 = .ok (.if_icmp .ge 26, 3) := by decide +kernel
theorem dX5_reachedBy_15 : decode cX5_reachedBy 15 = .ok (.iload_n 1, 1) := by decide +kernel
theorem dX5_reachedBy_16 : decode cX5_reachedBy 16 = .ok (.iload_n 3, 1) := by decide +kernel
theorem dX5_reachedBy_17 : decode cX5_reachedBy 17 = .ok (.ishr, 1) := by decide +kernel
theorem dX5_reachedBy_18 : decode cX5_reachedBy 18 = .ok (.iconst 1, 1) := by decide +kernel
theorem dX5_reachedBy_19 : decode cX5_reachedBy 19 = .ok (.iand, 1) := by decide +kernel
theorem dX5_reachedBy_20 : decode cX5_reachedBy 20 = .ok (.ifCond .eq 12, 3) := by decide +kernel
theorem dX5_reachedBy_23 : decode cX5_reachedBy 23 = .ok (.iload_n 2, 1) := by decide +kernel
theorem dX5_reachedBy_24 : decode cX5_reachedBy 24 = .ok (.aload_n 0, 1) := by decide +kernel
theorem dX5_reachedBy_25 : decode cX5_reachedBy 25 = .ok (.getfield 25, 3) := by decide +kernel
theorem dX5_reachedBy_28 : decode cX5_reachedBy 28 = .ok (.iload_n 3, 1) := by decide +kernel
theorem dX5_reachedBy_29 : decode cX5_reachedBy 29 = .ok (.iaload, 1) := by decide +kernel
theorem dX5_reachedBy_30 : decode cX5_reachedBy 30 = .ok (.ior, 1) := by decide +kernel
theorem dX5_reachedBy_31 : decode cX5_reachedBy 31 = .ok (.istore_n 2, 1) := by decide +kernel
theorem dX5_reachedBy_32 : decode cX5_reachedBy 32 = .ok (.iinc 3 1, 3) := by decide +kernel
theorem dX5_reachedBy_35 : decode cX5_reachedBy 35 = .ok (.goto (-31), 3) := by decide +kernel
theorem dX5_reachedBy_38 : decode cX5_reachedBy 38 = .ok (.iload_n 2, 1) := by decide +kernel
theorem dX5_reachedBy_39 : decode cX5_reachedBy 39 = .ok (.ireturn, 1) := by decide +kernel
theorem dX5_lookAs_0 : decode cX5_lookAs 0 = .ok (.aload_n 0, 1) := by decide +kernel
theorem dX5_lookAs_1 : decode cX5_lookAs 1 = .ok (.getfield 24, 3) := by decide +kernel
theorem dX5_lookAs_4 : decode cX5_lookAs 4 = .ok (.iload_n 1, 1) := by decide +kernel
theorem dX5_lookAs_5 : decode cX5_lookAs 5 = .ok (.iconst 0, 1) := by decide +kernel
theorem dX5_lookAs_6 : decode cX5_lookAs 6 = .ok (.invokevirtual 58, 3) := by decide +kernel
theorem dX5_lookAs_9 : decode cX5_lookAs 9 = .ok (.istore_n 3, 1) := by decide +kernel
theorem dX5_lookAs_10 : decode cX5_lookAs 10 = .ok (.iconst 0, 1) := by decide +kernel
theorem dX5_lookAs_11 : decode cX5_lookAs 11 = .ok (.istore 4, 2) := by decide +kernel
theorem dX5_lookAs_13 : decode cX5_lookAs 13 = .ok (.iload 4, 2) := by decide +kernel
theorem dX5_lookAs_15 : decode cX5_lookAs 15 = .ok (.aload_n 0, 1) := by decide +kernel
theorem dX5_lookAs_16 : decode cX5_lookAs 16 = .ok (.getfield 24, 3) := by decide +kernel
theorem dX5_lookAs_19 : decode cX5_lookAs 19 = .ok (.getfield 64, 3) := by decide +kernel
theorem dX5_lookAs_22 : decode cX5_lookAs 22 = .ok (.if_icmp .ge 26, 3) := by decide +kernel
theorem dX5_lookAs_25 : decode cX5_lookAs 25 = .ok (.aload_n 0, 1) := by decide +kernel
theorem dX5_lookAs_26 : decode cX5_lookAs 26 = .ok (.getfield 25, 3) := by decide +kernel
theorem dX5_lookAs_29 : decode cX5_lookAs 29 = .ok (.iload 4, 2) := by decide +kernel
theorem dX5_lookAs_31 : decode cX5_lookAs 31 = .ok (.aload_n 0, 1) := by decide +kernel
theorem dX5_lookAs_32 : decode cX5_lookAs 32 = .ok (.getfield 24, 3) := by decide +kernel
theorem dX5_lookAs_35 : decode cX5_lookAs 35 = .ok (.iload 4, 2) := by decide +kernel
theorem dX5_lookAs_37 : decode cX5_lookAs 37 = .ok (.iload_n 3, 1) := by decide +kernel
theorem dX5_lookAs_38 : decode cX5_lookAs 38 = .ok (.invokevirtual 67, 3) := by decide +kernel
theorem dX5_lookAs_41 : decode cX5_lookAs 41 = .ok (.iastore, 1) := by decide +kernel
theorem dX5_lookAs_42 : decode cX5_lookAs 42 = .ok (.iinc 4 1, 3) := by decide +kernel
theorem dX5_lookAs_45 : decode cX5_lookAs 45 = .ok (.goto (-32), 3) := by decide +kernel
theorem dX5_lookAs_48 : decode cX5_lookAs 48 = .ok (.aload_n 0, 1) := by decide +kernel
theorem dX5_lookAs_49 : decode cX5_lookAs 49 = .ok (.aload_n 0, 1) := by decide +kernel
theorem dX5_lookAs_50 : decode cX5_lookAs 50 = .ok (.getfield 14, 3) := by decide +kernel
theorem dX5_lookAs_53 : decode cX5_lookAs 53 = .ok (.invokevirtual 70, 3) := by decide +kernel
theorem dX5_lookAs_56 : decode cX5_lookAs 56 = .ok (.aload_n 0, 1) := by decide +kernel
theorem dX5_lookAs_57 : decode cX5_lookAs 57 = .ok (.getfield 24, 3) := by decide +kernel
theorem dX5_lookAs_60 : decode cX5_lookAs 60 = .ok (.iload_n 2, 1) := by decide +kernel
theorem dX5_lookAs_61 : decode cX5_lookAs 61 = .ok (.invokevirtual 74, 3) := by decide +kernel
theorem dX5_lookAs_64 : decode cX5_lookAs 64 = .ok (.iand, 1) := by decide +kernel
theorem dX5_lookAs_65 : decode cX5_lookAs 65 = .ok (.aload_n 0, 1) := by decide +kernel
theorem dX5_lookAs_66 : decode cX5_lookAs 66 = .ok (.aload_n 0, 1) := by decide +kernel
theorem dX5_lookAs_67 : decode cX5_lookAs 67 = .ok (.getfield 24, 3) := by decide +kernel
theorem dX5_lookAs_70 : decode cX5_lookAs 70 = .ok (.invokevirtual 78, 3) := by decide +kernel
theorem dX5_lookAs_73 : decode cX5_lookAs 73 = .ok (.invokevirtual 81, 3) := by decide +kernel
theorem dX5_lookAs_76 : decode cX5_lookAs 76 = .ok (.iand, 1) := by decide +kernel
theorem dX5_lookAs_77 : decode cX5_lookAs 77 = .ok (.putfield 84, 3) := by decide +kernel
theorem dX5_lookAs_80 : decode cX5_lookAs 80 = .ok (.return_, 1) := by decide +kernel
theorem dX5_look_0 : decode cX5_look 0 = .ok (.aload_n 0, 1) := by decide +kernel
theorem dX5_look_1 : decode cX5_look 1 = .ok (.aload_n 0, 1) := by decide +kernel
theorem dX5_look_2 : decode cX5_look 2 = .ok (.getfield 14, 3) := by decide +kernel
theorem dX5_look_5 : decode cX5_look 5 = .ok (.getfield 41, 3) := by decide +kernel
theorem dX5_look_8 : decode cX5_look 8 = .ok (.getfield 45, 3) := by decide +kernel
theorem dX5_look_11 : decode cX5_look 11 = .ok (.aload_n 0, 1) := by decide +kernel
theorem dX5_look_12 : decode cX5_look 12 = .ok (.getfield 14, 3) := by decide +kernel
theorem dX5_look_15 : decode cX5_look 15 = .ok (.getfield 41, 3) := by decide +kernel
theorem dX5_look_18 : decode cX5_look 18 = .ok (.getfield 51, 3) := by decide +kernel
theorem dX5_look_21 : decode cX5_look 21 = .ok (.invokevirtual 54, 3) := by decide +kernel
theorem dX5_look_24 : decode cX5_look 24 = .ok (.return_, 1) := by decide +kernel
theorem dX5_wantedFrom_0 : decode cX5_wantedFrom 0 = .ok (.aload_n 0, 1) := by decide +kernel
theorem dX5_wantedFrom_1 : decode cX5_wantedFrom 1 = .ok (.getfield 84, 3) := by decide +kernel
theorem dX5_wantedFrom_4 : decode cX5_wantedFrom 4 = .ok (.aload_n 0, 1) := by decide +kernel
theorem dX5_wantedFrom_5 : decode cX5_wantedFrom 5 = .ok (.getfield 25, 3) := by decide +kernel
theorem dX5_wantedFrom_8 : decode cX5_wantedFrom 8 = .ok (.iload_n 1, 1) := by decide +kernel
theorem dX5_wantedFrom_9 : decode cX5_wantedFrom 9 = .ok (.iaload, 1) := by decide +kernel
theorem dX5_wantedFrom_10 : decode cX5_wantedFrom 10 = .ok (.iand, 1) := by decide +kernel
theorem dX5_wantedFrom_11 : decode cX5_wantedFrom 11 = .ok (.ireturn, 1) := by decide +kernel
theorem dX9_both_0 : decode cX9_both 0 = .ok (.aload_n 0, 1) := by decide +kernel
theorem dX9_both_1 : decode cX9_both 1 = .ok (.getfield 34, 3) := by decide +kernel
theorem dX9_both_4 : decode cX9_both 4 = .ok (.iload_n 1, 1) := by decide +kernel
theorem dX9_both_5 : decode cX9_both 5 = .ok (.invokevirtual 150, 3) := by decide +kernel
theorem dX9_both_8 : decode cX9_both 8 = .ok (.ifCond .eq 19, 3) := by decide +kernel
theorem dX9_both_11 : decode cX9_both 11 = .ok (.aload_n 0, 1) := by decide +kernel
theorem dX9_both_12 : decode cX9_both 12 = .ok (.getfield 34, 3) := by decide +kernel
theorem dX9_both_15 : decode cX9_both 15 = .ok (.iload_n 2, 1) := by decide +kernel
theorem dX9_both_16 : decode cX9_both 16 = .ok (.invokevirtual 150, 3) := by decide +kernel
theorem dX9_both_19 : decode cX9_both 19 = .ok (.ifCond .eq 8, 3) := by decide +kernel
theorem dX9_both_22 : decode cX9_both 22 = .ok (.iload_n 1, 1) := by decide +kernel
theorem dX9_both_23 : decode cX9_both 23 = .ok (.iload_n 2, 1) := by decide +kernel
theorem dX9_both_24 : decode cX9_both 24 = .ok (.if_icmp .ne 5, 3) := by decide +kernel
theorem dX9_both_27 : decode cX9_both 27 = .ok (.iconst (-1), 1) := by decide +kernel
theorem dX9_both_28 : decode cX9_both 28 = .ok (.ireturn, 1) := by decide +kernel
theorem dX9_both_29 : decode cX9_both 29 = .ok (.aload_n 0, 1) := by decide +kernel
theorem dX9_both_30 : decode cX9_both 30 = .ok (.getfield 19, 3) := by decide +kernel
theorem dX9_both_33 : decode cX9_both 33 = .ok (.invokevirtual 265, 3) := by decide +kernel
theorem dX9_both_36 : decode cX9_both 36 = .ok (.aload_n 0, 1) := by decide +kernel
theorem dX9_both_37 : decode cX9_both 37 = .ok (.getfield 19, 3) := by decide +kernel
theorem dX9_both_40 : decode cX9_both 40 = .ok (.iload_n 1, 1) := by decide +kernel
theorem dX9_both_41 : decode cX9_both 41 = .ok (.invokevirtual 268, 3) := by decide +kernel
theorem dX9_both_44 : decode cX9_both 44 = .ok (.istore_n 3, 1) := by decide +kernel
theorem dX9_both_45 : decode cX9_both 45 = .ok (.aload_n 0, 1) := by decide +kernel
theorem dX9_both_46 : decode cX9_both 46 = .ok (.getfield 19, 3) := by decide +kernel
theorem dX9_both_49 : decode cX9_both 49 = .ok (.iload_n 2, 1) := by decide +kernel
theorem dX9_both_50 : decode cX9_both 50 = .ok (.invokevirtual 268, 3) := by decide +kernel
theorem dX9_both_53 : decode cX9_both 53 = .ok (.istore 4, 2) := by decide +kernel
theorem dX9_both_55 : decode cX9_both 55 = .ok (.aload_n 0, 1) := by decide +kernel
theorem dX9_both_56 : decode cX9_both 56 = .ok (.iload_n 3, 1) := by decide +kernel
theorem dX9_both_57 : decode cX9_both 57 = .ok (.iload 4, 2) := by decide +kernel
theorem dX9_both_59 : decode cX9_both 59 = .ok (.iconst (-1), 1) := by decide +kernel
theorem dX9_both_60 : decode cX9_both 60 = .ok (.ixor, 1) := by decide +kernel
theorem dX9_both_61 : decode cX9_both 61 = .ok (.iand, 1) := by decide +kernel
theorem dX9_both_62 : decode cX9_both 62 = .ok (.iload 4, 2) := by decide +kernel
theorem dX9_both_64 : decode cX9_both 64 = .ok (.iload_n 3, 1) := by decide +kernel
theorem dX9_both_65 : decode cX9_both 65 = .ok (.iconst (-1), 1) := by decide +kernel
theorem dX9_both_66 : decode cX9_both 66 = .ok (.ixor, 1) := by decide +kernel
theorem dX9_both_67 : decode cX9_both 67 = .ok (.iand, 1) := by decide +kernel
theorem dX9_both_68 : decode cX9_both 68 = .ok (.invokevirtual 234, 3) := by decide +kernel
theorem dX9_both_71 : decode cX9_both 71 = .ok (.iload_n 3, 1) := by decide +kernel
theorem dX9_both_72 : decode cX9_both 72 = .ok (.iload 4, 2) := by decide +kernel
theorem dX9_both_74 : decode cX9_both 74 = .ok (.iand, 1) := by decide +kernel
theorem dX9_both_75 : decode cX9_both 75 = .ok (.ireturn, 1) := by decide +kernel
theorem dX3_leanNeeded_0 : decode cX3_leanNeeded 0 = .ok (.iconst 0, 1) := by decide +kernel
theorem dX3_leanNeeded_1 : decode cX3_leanNeeded 1 = .ok (.istore_n 3, 1) := by decide +kernel
theorem dX3_leanNeeded_2 : decode cX3_leanNeeded 2 = .ok (.iload_n 3, 1) := by decide +kernel
theorem dX3_leanNeeded_3 : decode cX3_leanNeeded 3 = .ok (.bipush 30, 2) := by decide +kernel
theorem dX3_leanNeeded_5 : decode cX3_leanNeeded 5 = .ok (.if_icmp .gt 28, 3) := by decide +kernel
theorem dX3_leanNeeded_8 : decode cX3_leanNeeded 8 = .ok (.aload_n 0, 1) := by decide +kernel
theorem dX3_leanNeeded_9 : decode cX3_leanNeeded 9 = .ok (.iload_n 1, 1) := by decide +kernel
theorem dX3_leanNeeded_10 : decode cX3_leanNeeded 10 = .ok (.iload_n 2, 1) := by decide +kernel
theorem dX3_leanNeeded_11 : decode cX3_leanNeeded 11 = .ok (.aload_n 0, 1) := by decide +kernel
theorem dX3_leanNeeded_12 : decode cX3_leanNeeded 12 = .ok (.getfield 30, 3) := by decide +kernel
theorem dX3_leanNeeded_15 : decode cX3_leanNeeded 15 = .ok (.iconst 0, 1) := by decide +kernel
theorem dX3_leanNeeded_16 : decode cX3_leanNeeded 16 = .ok (.iaload, 1) := by decide +kernel
theorem dX3_leanNeeded_17 : decode cX3_leanNeeded 17 = .ok (.iload_n 3, 1) := by decide +kernel
theorem dX3_leanNeeded_18 : decode cX3_leanNeeded 18 = .ok (.iadd, 1) := by decide +kernel
theorem dX3_leanNeeded_19 : decode cX3_leanNeeded 19 = .ok (.invokevirtual 101, 3) := by decide +kernel
theorem dX3_leanNeeded_22 : decode cX3_leanNeeded 22 = .ok (.ifCond .eq 5, 3) := by decide +kernel
theorem dX3_leanNeeded_25 : decode cX3_leanNeeded 25 = .ok (.iload_n 3, 1) := by decide +kernel
theorem dX3_leanNeeded_26 : decode cX3_leanNeeded 26 = .ok (.ireturn, 1) := by decide +kernel
theorem dX3_leanNeeded_27 : decode cX3_leanNeeded 27 = .ok (.iinc 3 1, 3) := by decide +kernel
theorem dX3_leanNeeded_30 : decode cX3_leanNeeded 30 = .ok (.goto (-28), 3) := by decide +kernel
theorem dX3_leanNeeded_33 : decode cX3_leanNeeded 33 = .ok (.bipush (-2), 2) := by decide +kernel
theorem dX3_leanNeeded_35 : decode cX3_leanNeeded 35 = .ok (.ireturn, 1) := by decide +kernel
theorem dX9_nearest_0 : decode cX9_nearest 0 = .ok (.aload_n 0, 1) := by decide +kernel
theorem dX9_nearest_1 : decode cX9_nearest 1 = .ok (.getfield 34, 3) := by decide +kernel
theorem dX9_nearest_4 : decode cX9_nearest 4 = .ok (.iload_n 1, 1) := by decide +kernel
theorem dX9_nearest_5 : decode cX9_nearest 5 = .ok (.invokevirtual 117, 3) := by decide +kernel
theorem dX9_nearest_8 : decode cX9_nearest 8 = .ok (.ifCond .ne 5, 3) := by decide +kernel
theorem dX9_nearest_11 : decode cX9_nearest 11 = .ok (.iconst (-1), 1) := by decide +kernel
theorem dX9_nearest_12 : decode cX9_nearest 12 = .ok (.ireturn, 1) := by decide +kernel
theorem dX9_nearest_13 : decode cX9_nearest 13 = .ok (.bipush (-2), 2) := by decide +kernel
theorem dX9_nearest_15 : decode cX9_nearest 15 = .ok (.istore_n 2, 1) := by decide +kernel
theorem dX9_nearest_16 : decode cX9_nearest 16 = .ok (.bipush 31, 2) := by decide +kernel
theorem dX9_nearest_18 : decode cX9_nearest 18 = .ok (.istore_n 3, 1) := by decide +kernel
theorem dX9_nearest_19 : decode cX9_nearest 19 = .ok (.iconst 0, 1) := by decide +kernel
theorem dX9_nearest_20 : decode cX9_nearest 20 = .ok (.istore 4, 2) := by decide +kernel
theorem dX9_nearest_22 : decode cX9_nearest 22 = .ok (.iload 4, 2) := by decide +kernel
theorem dX9_nearest_24 : decode cX9_nearest 24 = .ok (.aload_n 0, 1) := by decide +kernel
theorem dX9_nearest_25 : decode cX9_nearest 25 = .ok (.getfield 34, 3) := by decide +kernel
theorem dX9_nearest_28 : decode cX9_nearest 28 = .ok (.getfield 250, 3) := by decide +kernel
theorem dX9_nearest_31 : decode cX9_nearest 31 = .ok (.if_icmp .ge 38, 3) := by decide +kernel
theorem dX9_nearest_34 : decode cX9_nearest 34 = .ok (.aload_n 0, 1) := by decide +kernel
theorem dX9_nearest_35 : decode cX9_nearest 35 = .ok (.getfield 34, 3) := by decide +kernel
theorem dX9_nearest_38 : decode cX9_nearest 38 = .ok (.iload_n 1, 1) := by decide +kernel
theorem dX9_nearest_39 : decode cX9_nearest 39 = .ok (.iload 4, 2) := by decide +kernel
theorem dX9_nearest_41 : decode cX9_nearest 41 = .ok (.invokevirtual 271, 3) := by decide +kernel
theorem dX9_nearest_44 : decode cX9_nearest 44 = .ok (.istore 5, 2) := by decide +kernel
theorem dX9_nearest_46 : decode cX9_nearest 46 = .ok (.iload 5, 2) := by decide +kernel
theorem dX9_nearest_48 : decode cX9_nearest 48 = .ok (.ifCond .lt 15, 3) := by decide +kernel
theorem dX9_nearest_51 : decode cX9_nearest 51 = .ok (.iload 5, 2) := by decide +kernel
theorem dX9_nearest_53 : decode cX9_nearest 53 = .ok (.iload_n 3, 1) := by decide +kernel
theorem dX9_nearest_54 : decode cX9_nearest 54 = .ok (.if_icmp .ge 9, 3) := by decide +kernel
theorem dX9_nearest_57 : decode cX9_nearest 57 = .ok (.iload 4, 2) := by decide +kernel
theorem dX9_nearest_59 : decode cX9_nearest 59 = .ok (.istore_n 2, 1) := by decide +kernel
theorem dX9_nearest_60 : decode cX9_nearest 60 = .ok (.iload 5, 2) := by decide +kernel
theorem dX9_nearest_62 : decode cX9_nearest 62 = .ok (.istore_n 3, 1) := by decide +kernel
theorem dX9_nearest_63 : decode cX9_nearest 63 = .ok (.iinc 4 1, 3) := by decide +kernel
theorem dX9_nearest_66 : decode cX9_nearest 66 = .ok (.goto (-44), 3) := by decide +kernel
theorem dX9_nearest_69 : decode cX9_nearest 69 = .ok (.iload_n 2, 1) := by decide +kernel
theorem dX9_nearest_70 : decode cX9_nearest 70 = .ok (.ifCond .lt 8, 3) := by decide +kernel
theorem dX9_nearest_73 : decode cX9_nearest 73 = .ok (.aload_n 0, 1) := by decide +kernel
theorem dX9_nearest_74 : decode cX9_nearest 74 = .ok (.iload_n 3, 1) := by decide +kernel
theorem dX9_nearest_75 : decode cX9_nearest 75 = .ok (.invokevirtual 260, 3) := by decide +kernel
theorem dX9_nearest_78 : decode cX9_nearest 78 = .ok (.iload_n 2, 1) := by decide +kernel
theorem dX9_nearest_79 : decode cX9_nearest 79 = .ok (.ireturn, 1) := by decide +kernel
theorem dX5_isEarlier_0 : decode cX5_isEarlier 0 = .ok (.iload_n 0, 1) := by decide +kernel
theorem dX5_isEarlier_1 : decode cX5_isEarlier 1 = .ok (.invokestatic 94, 3) := by decide +kernel
theorem dX5_isEarlier_4 : decode cX5_isEarlier 4 = .ok (.iload_n 1, 1) := by decide +kernel
theorem dX5_isEarlier_5 : decode cX5_isEarlier 5 = .ok (.invokestatic 94, 3) := by decide +kernel
theorem dX5_isEarlier_8 : decode cX5_isEarlier 8 = .ok (.isub, 1) := by decide +kernel
theorem dX5_isEarlier_9 : decode cX5_isEarlier 9 = .ok (.istore_n 2, 1) := by decide +kernel
theorem dX5_isEarlier_10 : decode cX5_isEarlier 10 = .ok (.iload_n 0, 1) := by decide +kernel
theorem dX5_isEarlier_11 : decode cX5_isEarlier 11 = .ok (.iload_n 1, 1) := by decide +kernel
theorem dX5_isEarlier_12 : decode cX5_isEarlier 12 = .ok (.ixor, 1) := by decide +kernel
theorem dX5_isEarlier_13 : decode cX5_isEarlier 13 = .ok (.istore_n 3, 1) := by decide +kernel
theorem dX5_isEarlier_14 : decode cX5_isEarlier 14 = .ok (.iload_n 2, 1) := by decide +kernel
theorem dX5_isEarlier_15 : decode cX5_isEarlier 15 = .ok (.ifCond .lt 16, 3) := by decide +kernel
theorem dX5_isEarlier_18 : decode cX5_isEarlier 18 = .ok (.iload_n 2, 1) := by decide +kernel
theorem dX5_isEarlier_19 : decode cX5_isEarlier 19 = .ok (.ifCond .ne 16, 3) := by decide +kernel
theorem dX5_isEarlier_22 : decode cX5_isEarlier 22 = .ok (.iload_n 0, 1) := by decide +kernel
theorem dX5_isEarlier_23 : decode cX5_isEarlier 23 = .ok (.iload_n 3, 1) := by decide +kernel
theorem dX5_isEarlier_24 : decode cX5_isEarlier 24 = .ok (.iand, 1) := by decide +kernel
theorem dX5_isEarlier_25 : decode cX5_isEarlier 25 = .ok (.iload_n 3, 1) := by decide +kernel
theorem dX5_isEarlier_26 : decode cX5_isEarlier 26 = .ok (.ineg, 1) := by decide +kernel
theorem dX5_isEarlier_27 : decode cX5_isEarlier 27 = .ok (.iand, 1) := by decide +kernel
theorem dX5_isEarlier_28 : decode cX5_isEarlier 28 = .ok (.ifCond .eq 7, 3) := by decide +kernel
theorem dX5_isEarlier_31 : decode cX5_isEarlier 31 = .ok (.iconst 1, 1) := by decide +kernel
theorem dX5_isEarlier_32 : decode cX5_isEarlier 32 = .ok (.goto 4, 3) := by decide +kernel
theorem dX5_isEarlier_35 : decode cX5_isEarlier 35 = .ok (.iconst 0, 1) := by decide +kernel
theorem dX5_isEarlier_36 : decode cX5_isEarlier 36 = .ok (.ireturn, 1) := by decide +kernel
theorem dX5_smallestCover_0 : decode cX5_smallestCover 0 = .ok (.iload_n 2, 1) := by decide +kernel
theorem dX5_smallestCover_1 : decode cX5_smallestCover 1 = .ok (.istore_n 3, 1) := by decide +kernel
theorem dX5_smallestCover_2 : decode cX5_smallestCover 2 = .ok (.iconst 0, 1) := by decide +kernel
theorem dX5_smallestCover_3 : decode cX5_smallestCover 3 = .ok (.istore 4, 2) := by decide +kernel
theorem dX5_smallestCover_5 : decode cX5_smallestCover 5 = .ok (.iload 4, 2) := by decide +kernel
theorem dX5_smallestCover_7 : decode cX5_smallestCover 7 = .ok (.iload_n 2, 1) := by decide +kernel
theorem dX5_smallestCover_8 : decode cX5_smallestCover 8 = .ok (.if_icmp .ge 43, 3) := by decide +kernel
theorem dX5_smallestCover_11 : decode cX5_smallestCover 11 = .ok (.iload 4, 2) := by decide +kernel
theorem dX5_smallestCover_13 : decode cX5_smallestCover 13 = .ok (.iload_n 2, 1) := by decide +kernel
theorem dX5_smallestCover_14 : decode cX5_smallestCover 14 = .ok (.iconst (-1), 1) := by decide +kernel
theorem dX5_smallestCover_15 : decode cX5_smallestCover 15 = .ok (.ixor, 1) := by decide +kernel
theorem dX5_smallestCover_16 : decode cX5_smallestCover 16 = .ok (.iand, 1) := by decide +kernel
theorem dX5_smallestCover_17 : decode cX5_smallestCover 17 = .ok (.ifCond .ne 28, 3) := by decide +kernel
theorem dX5_smallestCover_20 : decode cX5_smallestCover 20 = .ok (.iload_n 1, 1) := by decide +kernel
theorem dX5_smallestCover_21 : decode cX5_smallestCover 21 = .ok (.aload_n 0, 1) := by decide +kernel
theorem dX5_smallestCover_22 : decode cX5_smallestCover 22 = .ok (.iload 4, 2) := by decide +kernel
theorem dX5_smallestCover_24 : decode cX5_smallestCover 24 = .ok (.invokevirtual 81, 3) := by decide +kernel
theorem dX5_smallestCover_27 : decode cX5_smallestCover 27 = .ok (.iconst (-1), 1) := by decide +kernel
theorem dX5_smallestCover_28 : decode cX5_smallestCover 28 = .ok (.ixor, 1) := by decide +kernel
theorem dX5_smallestCover_29 : decode cX5_smallestCover 29 = .ok (.iand, 1) := by decide +kernel
theorem dX5_smallestCover_30 : decode cX5_smallestCover 30 = .ok (.ifCond .ne 15, 3) := by decide +kernel
theorem dX5_smallestCover_33 : decode cX5_smallestCover 33 = .ok (.iload 4, 2) := by decide +kernel
theorem dX5_smallestCover_35 : decode cX5_smallestCover 35 = .ok (.iload_n 3, 1) := by decide +kernel
theorem dX5_smallestCover_36 : decode cX5_smallestCover 36 = .ok (.invokestatic 90, 3) := by decide +kernel
theorem dX5_smallestCover_39 : decode cX5_smallestCover 39 = .ok (.ifCond .eq 6, 3) := by decide +kernel
theorem dX5_smallestCover_42 : decode cX5_smallestCover 42 = .ok (.iload 4, 2) := by decide +kernel
theorem dX5_smallestCover_44 : decode cX5_smallestCover 44 = .ok (.istore_n 3, 1) := by decide +kernel
theorem dX5_smallestCover_45 : decode cX5_smallestCover 45 = .ok (.iinc 4 1, 3) := by decide +kernel
theorem dX5_smallestCover_48 : decode cX5_smallestCover 48 = .ok (.goto (-43), 3) := by decide +kernel
theorem dX5_smallestCover_51 : decode cX5_smallestCover 51 = .ok (.iload_n 3, 1) := by decide +kernel
theorem dX5_smallestCover_52 : decode cX5_smallestCover 52 = .ok (.ireturn, 1) := by decide +kernel
theorem dX9_tellMembers_0 : decode cX9_tellMembers 0 = .ok (.aload_n 0, 1) := by decide +kernel
theorem dX9_tellMembers_1 : decode cX9_tellMembers 1 = .ok (.getfield 50, 3) := by decide +kernel
theorem dX9_tellMembers_4 : decode cX9_tellMembers 4 = .ok (.invokevirtual 304, 3) := by decide +kernel
theorem dX9_tellMembers_7 : decode cX9_tellMembers 7 = .ok (.iconst 0, 1) := by decide +kernel
theorem dX9_tellMembers_8 : decode cX9_tellMembers 8 = .ok (.istore_n 2, 1) := by decide +kernel
theorem dX9_tellMembers_9 : decode cX9_tellMembers 9 = .ok (.iload_n 2, 1) := by decide +kernel
theorem dX9_tellMembers_10 : decode cX9_tellMembers 10 = .ok (.bipush 8, 2) := by decide +kernel
theorem dX9_tellMembers_12 : decode cX9_tellMembers 12 = .ok (.if_icmp .ge 25, 3) := by decide +kernel
theorem dX9_tellMembers_15 : decode cX9_tellMembers 15 = .ok (.iload_n 1, 1) := by decide +kernel
theorem dX9_tellMembers_16 : decode cX9_tellMembers 16 = .ok (.iload_n 2, 1) := by decide +kernel
theorem dX9_tellMembers_17 : decode cX9_tellMembers 17 = .ok (.ishr, 1) := by decide +kernel
theorem dX9_tellMembers_18 : decode cX9_tellMembers 18 = .ok (.iconst 1, 1) := by decide +kernel
theorem dX9_tellMembers_19 : decode cX9_tellMembers 19 = .ok (.iand, 1) := by decide +kernel
theorem dX9_tellMembers_20 : decode cX9_tellMembers 20 = .ok (.ifCond .eq 11, 3) := by decide +kernel
theorem dX9_tellMembers_23 : decode cX9_tellMembers 23 = .ok (.aload_n 0, 1) := by decide +kernel
theorem dX9_tellMembers_24 : decode cX9_tellMembers 24 = .ok (.getfield 50, 3) := by decide +kernel
theorem dX9_tellMembers_27 : decode cX9_tellMembers 27 = .ok (.iload_n 2, 1) := by decide +kernel
theorem dX9_tellMembers_28 : decode cX9_tellMembers 28 = .ok (.invokevirtual 318, 3) := by decide +kernel
theorem dX9_tellMembers_31 : decode cX9_tellMembers 31 = .ok (.iinc 2 1, 3) := by decide +kernel
theorem dX9_tellMembers_34 : decode cX9_tellMembers 34 = .ok (.goto (-25), 3) := by decide +kernel
theorem dX9_tellMembers_37 : decode cX9_tellMembers 37 = .ok (.aload_n 0, 1) := by decide +kernel
theorem dX9_tellMembers_38 : decode cX9_tellMembers 38 = .ok (.getfield 50, 3) := by decide +kernel
theorem dX9_tellMembers_41 : decode cX9_tellMembers 41 = .ok (.getfield 374, 3) := by decide +kernel
theorem dX9_tellMembers_44 : decode cX9_tellMembers 44 = .ok (.ireturn, 1) := by decide +kernel
theorem dX9_fewest_0 : decode cX9_fewest 0 = .ok (.aload_n 0, 1) := by decide +kernel
theorem dX9_fewest_1 : decode cX9_fewest 1 = .ok (.getfield 19, 3) := by decide +kernel
theorem dX9_fewest_4 : decode cX9_fewest 4 = .ok (.invokevirtual 265, 3) := by decide +kernel
theorem dX9_fewest_7 : decode cX9_fewest 7 = .ok (.aload_n 0, 1) := by decide +kernel
theorem dX9_fewest_8 : decode cX9_fewest 8 = .ok (.aload_n 0, 1) := by decide +kernel
theorem dX9_fewest_9 : decode cX9_fewest 9 = .ok (.getfield 19, 3) := by decide +kernel
theorem dX9_fewest_12 : decode cX9_fewest 12 = .ok (.aload_n 0, 1) := by decide +kernel
theorem dX9_fewest_13 : decode cX9_fewest 13 = .ok (.getfield 19, 3) := by decide +kernel
theorem dX9_fewest_16 : decode cX9_fewest 16 = .ok (.getfield 274, 3) := by decide +kernel
theorem dX9_fewest_19 : decode cX9_fewest 19 = .ok (.aload_n 0, 1) := by decide +kernel
theorem dX9_fewest_20 : decode cX9_fewest 20 = .ok (.getfield 34, 3) := by decide +kernel
theorem dX9_fewest_23 : decode cX9_fewest 23 = .ok (.invokevirtual 277, 3) := by decide +kernel
theorem dX9_fewest_26 : decode cX9_fewest 26 = .ok (.invokevirtual 280, 3) := by decide +kernel
theorem dX9_fewest_29 : decode cX9_fewest 29 = .ok (.invokevirtual 283, 3) := by decide +kernel
theorem dX9_fewest_32 : decode cX9_fewest 32 = .ok (.ireturn, 1) := by decide +kernel
theorem dX9_needed_0 : decode cX9_needed 0 = .ok (.aload_n 0, 1) := by decide +kernel
theorem dX9_needed_1 : decode cX9_needed 1 = .ok (.getfield 19, 3) := by decide +kernel
theorem dX9_needed_4 : decode cX9_needed 4 = .ok (.invokevirtual 265, 3) := by decide +kernel
theorem dX9_needed_7 : decode cX9_needed 7 = .ok (.iconst 0, 1) := by decide +kernel
theorem dX9_needed_8 : decode cX9_needed 8 = .ok (.istore_n 1, 1) := by decide +kernel
theorem dX9_needed_9 : decode cX9_needed 9 = .ok (.iconst 0, 1) := by decide +kernel
theorem dX9_needed_10 : decode cX9_needed 10 = .ok (.istore_n 2, 1) := by decide +kernel
theorem dX9_needed_11 : decode cX9_needed 11 = .ok (.iconst 0, 1) := by decide +kernel
theorem dX9_needed_12 : decode cX9_needed 12 = .ok (.istore_n 3, 1) := by decide +kernel
theorem dX9_needed_13 : decode cX9_needed 13 = .ok (.iload_n 3, 1) := by decide +kernel
theorem dX9_needed_14 : decode cX9_needed 14 = .ok (.aload_n 0, 1) := by decide +kernel
theorem dX9_needed_15 : decode cX9_needed 15 = .ok (.getfield 34, 3) := by decide +kernel
theorem dX9_needed_18 : decode cX9_needed 18 = .ok (.getfield 250, 3) := by decide +kernel
theorem dX9_needed_21 : decode cX9_needed 21 = .ok (.if_icmp .ge 61, 3) := by decide +kernel
theorem dX9_needed_24 : decode cX9_needed 24 = .ok (.aload_n 0, 1) := by decide +kernel
theorem dX9_needed_25 : decode cX9_needed 25 = .ok (.getfield 34, 3) := by decide +kernel
theorem dX9_needed_28 : decode cX9_needed 28 = .ok (.invokevirtual 277, 3) := by decide +kernel
theorem dX9_needed_31 : decode cX9_needed 31 = .ok (.iconst 1, 1) := by decide +kernel
theorem dX9_needed_32 : decode cX9_needed 32 = .ok (.iload_n 3, 1) := by decide +kernel
theorem dX9_needed_33 : decode cX9_needed 33 = .ok (.ishl, 1) := by decide +kernel
theorem dX9_needed_34 : decode cX9_needed 34 = .ok (.iconst (-1), 1) := by decide +kernel
theorem dX9_needed_35 : decode cX9_needed 35 = .ok (.ixor, 1) := by decide +kernel
theorem dX9_needed_36 : decode cX9_needed 36 = .ok (.iand, 1) := by decide +kernel
theorem dX9_needed_37 : decode cX9_needed 37 = .ok (.istore 4, 2) := by decide +kernel
theorem dX9_needed_39 : decode cX9_needed 39 = .ok (.aload_n 0, 1) := by decide +kernel
theorem dX9_needed_40 : decode cX9_needed 40 = .ok (.getfield 19, 3) := by decide +kernel
theorem dX9_needed_43 : decode cX9_needed 43 = .ok (.getfield 274, 3) := by decide +kernel
theorem dX9_needed_46 : decode cX9_needed 46 = .ok (.aload_n 0, 1) := by decide +kernel
theorem dX9_needed_47 : decode cX9_needed 47 = .ok (.getfield 19, 3) := by decide +kernel
theorem dX9_needed_50 : decode cX9_needed 50 = .ok (.iload 4, 2) := by decide +kernel
theorem dX9_needed_52 : decode cX9_needed 52 = .ok (.invokevirtual 286, 3) := by decide +kernel
theorem dX9_needed_55 : decode cX9_needed 55 = .ok (.iconst (-1), 1) := by decide +kernel
theorem dX9_needed_56 : decode cX9_needed 56 = .ok (.ixor, 1) := by decide +kernel
theorem dX9_needed_57 : decode cX9_needed 57 = .ok (.iand, 1) := by decide +kernel
theorem dX9_needed_58 : decode cX9_needed 58 = .ok (.istore 5, 2) := by decide +kernel
theorem dX9_needed_60 : decode cX9_needed 60 = .ok (.iload 5, 2) := by decide +kernel
theorem dX9_needed_62 : decode cX9_needed 62 = .ok (.ifCond .eq 14, 3) := by decide +kernel
theorem dX9_needed_65 : decode cX9_needed 65 = .ok (.iload_n 1, 1) := by decide +kernel
theorem dX9_needed_66 : decode cX9_needed 66 = .ok (.iconst 1, 1) := by decide +kernel
theorem dX9_needed_67 : decode cX9_needed 67 = .ok (.iload_n 3, 1) := by decide +kernel
theorem dX9_needed_68 : decode cX9_needed 68 = .ok (.ishl, 1) := by decide +kernel
theorem dX9_needed_69 : decode cX9_needed 69 = .ok (.ior, 1) := by decide +kernel
theorem dX9_needed_70 : decode cX9_needed 70 = .ok (.istore_n 1, 1) := by decide +kernel
theorem dX9_needed_71 : decode cX9_needed 71 = .ok (.iload_n 2, 1) := by decide +kernel
theorem dX9_needed_72 : decode cX9_needed 72 = .ok (.iload 5, 2) := by decide +kernel
theorem dX9_needed_74 : decode cX9_needed 74 = .ok (.ior, 1) := by decide +kernel
theorem dX9_needed_75 : decode cX9_needed 75 = .ok (.istore_n 2, 1) := by decide +kernel
theorem dX9_needed_76 : decode cX9_needed 76 = .ok (.iinc 3 1, 3) := by decide +kernel
theorem dX9_needed_79 : decode cX9_needed 79 = .ok (.goto (-66), 3) := by decide +kernel
theorem dX9_needed_82 : decode cX9_needed 82 = .ok (.aload_n 0, 1) := by decide +kernel
theorem dX9_needed_83 : decode cX9_needed 83 = .ok (.iload_n 2, 1) := by decide +kernel
theorem dX9_needed_84 : decode cX9_needed 84 = .ok (.invokevirtual 260, 3) := by decide +kernel
theorem dX9_needed_87 : decode cX9_needed 87 = .ok (.iload_n 1, 1) := by decide +kernel
theorem dX9_needed_88 : decode cX9_needed 88 = .ok (.ireturn, 1) := by decide +kernel
theorem dX5_worthLeft_0 : decode cX5_worthLeft 0 = .ok (.aload_n 0, 1) := by decide +kernel
theorem dX5_worthLeft_1 : decode cX5_worthLeft 1 = .ok (.getfield 14, 3) := by decide +kernel
theorem dX5_worthLeft_4 : decode cX5_worthLeft 4 = .ok (.aload_n 0, 1) := by decide +kernel
theorem dX5_worthLeft_5 : decode cX5_worthLeft 5 = .ok (.getfield 84, 3) := by decide +kernel
theorem dX5_worthLeft_8 : decode cX5_worthLeft 8 = .ok (.aload_n 0, 1) := by decide +kernel
theorem dX5_worthLeft_9 : decode cX5_worthLeft 9 = .ok (.iload_n 1, 1) := by decide +kernel
theorem dX5_worthLeft_10 : decode cX5_worthLeft 10 = .ok (.invokevirtual 81, 3) := by decide +kernel
theorem dX5_worthLeft_13 : decode cX5_worthLeft 13 = .ok (.iconst (-1), 1) := by decide +kernel
theorem dX5_worthLeft_14 : decode cX5_worthLeft 14 = .ok (.ixor, 1) := by decide +kernel
theorem dX5_worthLeft_15 : decode cX5_worthLeft 15 = .ok (.iand, 1) := by decide +kernel
theorem dX5_worthLeft_16 : decode cX5_worthLeft 16 = .ok (.invokevirtual 87, 3) := by decide +kernel
theorem dX5_worthLeft_19 : decode cX5_worthLeft 19 = .ok (.ireturn, 1) := by decide +kernel
theorem dX9_isFewer_0 : decode cX9_isFewer 0 = .ok (.iload_n 0, 1) := by decide +kernel
theorem dX9_isFewer_1 : decode cX9_isFewer 1 = .ok (.invokestatic 292, 3) := by decide +kernel
theorem dX9_isFewer_4 : decode cX9_isFewer 4 = .ok (.iload_n 1, 1) := by decide +kernel
theorem dX9_isFewer_5 : decode cX9_isFewer 5 = .ok (.invokestatic 292, 3) := by decide +kernel
theorem dX9_isFewer_8 : decode cX9_isFewer 8 = .ok (.isub, 1) := by decide +kernel
theorem dX9_isFewer_9 : decode cX9_isFewer 9 = .ok (.istore_n 2, 1) := by decide +kernel
theorem dX9_isFewer_10 : decode cX9_isFewer 10 = .ok (.iload_n 2, 1) := by decide +kernel
theorem dX9_isFewer_11 : decode cX9_isFewer 11 = .ok (.ifCond .lt 12, 3) := by decide +kernel
theorem dX9_isFewer_14 : decode cX9_isFewer 14 = .ok (.iload_n 2, 1) := by decide +kernel
theorem dX9_isFewer_15 : decode cX9_isFewer 15 = .ok (.ifCond .ne 12, 3) := by decide +kernel
theorem dX9_isFewer_18 : decode cX9_isFewer 18 = .ok (.iload_n 0, 1) := by decide +kernel
theorem dX9_isFewer_19 : decode cX9_isFewer 19 = .ok (.iload_n 1, 1) := by decide +kernel
theorem dX9_isFewer_20 : decode cX9_isFewer 20 = .ok (.if_icmp .ge 7, 3) := by decide +kernel
theorem dX9_isFewer_23 : decode cX9_isFewer 23 = .ok (.iconst 1, 1) := by decide +kernel
theorem dX9_isFewer_24 : decode cX9_isFewer 24 = .ok (.goto 4, 3) := by decide +kernel
theorem dX9_isFewer_27 : decode cX9_isFewer 27 = .ok (.iconst 0, 1) := by decide +kernel
theorem dX9_isFewer_28 : decode cX9_isFewer 28 = .ok (.ireturn, 1) := by decide +kernel
theorem dX9_birds_0 : decode cX9_birds 0 = .ok (.iload_n 1, 1) := by decide +kernel
theorem dX9_birds_1 : decode cX9_birds 1 = .ok (.ifCond .lt 9, 3) := by decide +kernel
theorem dX9_birds_4 : decode cX9_birds 4 = .ok (.iload_n 1, 1) := by decide +kernel
theorem dX9_birds_5 : decode cX9_birds 5 = .ok (.bipush 8, 2) := by decide +kernel
theorem dX9_birds_7 : decode cX9_birds 7 = .ok (.if_icmp .le 5, 3) := by decide +kernel
theorem dX9_birds_10 : decode cX9_birds 10 = .ok (.iconst (-1), 1) := by decide +kernel
theorem dX9_birds_11 : decode cX9_birds 11 = .ok (.ireturn, 1) := by decide +kernel
theorem dX9_birds_12 : decode cX9_birds 12 = .ok (.aload_n 0, 1) := by decide +kernel
theorem dX9_birds_13 : decode cX9_birds 13 = .ok (.getfield 19, 3) := by decide +kernel
theorem dX9_birds_16 : decode cX9_birds 16 = .ok (.invokevirtual 265, 3) := by decide +kernel
theorem dX9_birds_19 : decode cX9_birds 19 = .ok (.iconst 0, 1) := by decide +kernel
theorem dX9_birds_20 : decode cX9_birds 20 = .ok (.istore_n 2, 1) := by decide +kernel
theorem dX9_birds_21 : decode cX9_birds 21 = .ok (.aload_n 0, 1) := by decide +kernel
theorem dX9_birds_22 : decode cX9_birds 22 = .ok (.getfield 19, 3) := by decide +kernel
theorem dX9_birds_25 : decode cX9_birds 25 = .ok (.iconst 0, 1) := by decide +kernel
theorem dX9_birds_26 : decode cX9_birds 26 = .ok (.invokevirtual 289, 3) := by decide +kernel
theorem dX9_birds_29 : decode cX9_birds 29 = .ok (.istore_n 3, 1) := by decide +kernel
theorem dX9_birds_30 : decode cX9_birds 30 = .ok (.iconst 1, 1) := by decide +kernel
theorem dX9_birds_31 : decode cX9_birds 31 = .ok (.istore 4, 2) := by decide +kernel
theorem dX9_birds_33 : decode cX9_birds 33 = .ok (.iload 4, 2) := by decide +kernel
theorem dX9_birds_35 : decode cX9_birds 35 = .ok (.aload_n 0, 1) := by decide +kernel
theorem dX9_birds_36 : decode cX9_birds 36 = .ok (.getfield 34, 3) := by decide +kernel
theorem dX9_birds_39 : decode cX9_birds 39 = .ok (.invokevirtual 277, 3) := by decide +kernel
theorem dX9_birds_42 : decode cX9_birds 42 = .ok (.if_icmp .gt 56, 3) := by decide +kernel
theorem dX9_birds_45 : decode cX9_birds 45 = .ok (.iload 4, 2) := by decide +kernel
theorem dX9_birds_47 : decode cX9_birds 47 = .ok (.invokestatic 292, 3) := by decide +kernel
