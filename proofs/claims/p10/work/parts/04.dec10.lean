theorem dX10_remember_70 : decode cX10_remember 70 = .ok (.iadd, 1) := by decide +kernel
theorem dX10_remember_71 : decode cX10_remember 71 = .ok (.putfield 159, 3) := by decide +kernel
theorem dX10_remember_74 : decode cX10_remember 74 = .ok (.return_, 1) := by decide +kernel
theorem dX10_moveOf_0 : decode cX10_moveOf 0 = .ok (.iload_n 1, 1) := by decide +kernel
theorem dX10_moveOf_1 : decode cX10_moveOf 1 = .ok (.iconst (-1), 1) := by decide +kernel
theorem dX10_moveOf_2 : decode cX10_moveOf 2 = .ok (.if_icmp .ne 8, 3) := by decide +kernel
theorem dX10_moveOf_5 : decode cX10_moveOf 5 = .ok (.bipush 9, 2) := by decide +kernel
theorem dX10_moveOf_7 : decode cX10_moveOf 7 = .ok (.goto 29, 3) := by decide +kernel
theorem dX10_moveOf_10 : decode cX10_moveOf 10 = .ok (.bipush 9, 2) := by decide +kernel
theorem dX10_moveOf_12 : decode cX10_moveOf 12 = .ok (.aload_n 0, 1) := by decide +kernel
theorem dX10_moveOf_13 : decode cX10_moveOf 13 = .ok (.getfield 31, 3) := by decide +kernel
theorem dX10_moveOf_16 : decode cX10_moveOf 16 = .ok (.iconst 3, 1) := by decide +kernel
theorem dX10_moveOf_17 : decode cX10_moveOf 17 = .ok (.iaload, 1) := by decide +kernel
theorem dX10_moveOf_18 : decode cX10_moveOf 18 = .ok (.aload_n 0, 1) := by decide +kernel
theorem dX10_moveOf_19 : decode cX10_moveOf 19 = .ok (.getfield 25, 3) := by decide +kernel
theorem dX10_moveOf_22 : decode cX10_moveOf 22 = .ok (.iload_n 1, 1) := by decide +kernel
theorem dX10_moveOf_23 : decode cX10_moveOf 23 = .ok (.iaload, 1) := by decide +kernel
theorem dX10_moveOf_24 : decode cX10_moveOf 24 = .ok (.aload_n 0, 1) := by decide +kernel
theorem dX10_moveOf_25 : decode cX10_moveOf 25 = .ok (.getfield 25, 3) := by decide +kernel
theorem dX10_moveOf_28 : decode cX10_moveOf 28 = .ok (.iload_n 2, 1) := by decide +kernel
theorem dX10_moveOf_29 : decode cX10_moveOf 29 = .ok (.iaload, 1) := by decide +kernel
theorem dX10_moveOf_30 : decode cX10_moveOf 30 = .ok (.isub, 1) := by decide +kernel
theorem dX10_moveOf_31 : decode cX10_moveOf 31 = .ok (.invokestatic 206, 3) := by decide +kernel
theorem dX10_moveOf_34 : decode cX10_moveOf 34 = .ok (.imul, 1) := by decide +kernel
theorem dX10_moveOf_35 : decode cX10_moveOf 35 = .ok (.iadd, 1) := by decide +kernel
theorem dX10_moveOf_36 : decode cX10_moveOf 36 = .ok (.ireturn, 1) := by decide +kernel
theorem dX10_empty_0 : decode cX10_empty 0 = .ok (.iconst 0, 1) := by decide +kernel
theorem dX10_empty_1 : decode cX10_empty 1 = .ok (.istore_n 1, 1) := by decide +kernel
theorem dX10_empty_2 : decode cX10_empty 2 = .ok (.iconst 0, 1) := by decide +kernel
theorem dX10_empty_3 : decode cX10_empty 3 = .ok (.istore_n 2, 1) := by decide +kernel
theorem dX10_empty_4 : decode cX10_empty 4 = .ok (.iload_n 2, 1) := by decide +kernel
theorem dX10_empty_5 : decode cX10_empty 5 = .ok (.aload_n 0, 1) := by decide +kernel
theorem dX10_empty_6 : decode cX10_empty 6 = .ok (.getfield 94, 3) := by decide +kernel
theorem dX10_empty_9 : decode cX10_empty 9 = .ok (.if_icmp .ge 32, 3) := by decide +kernel
theorem dX10_empty_12 : decode cX10_empty 12 = .ok (.aload_n 0, 1) := by decide +kernel
theorem dX10_empty_13 : decode cX10_empty 13 = .ok (.getfield 9, 3) := by decide +kernel
theorem dX10_empty_16 : decode cX10_empty 16 = .ok (.iload_n 2, 1) := by decide +kernel
theorem dX10_empty_17 : decode cX10_empty 17 = .ok (.iaload, 1) := by decide +kernel
theorem dX10_empty_18 : decode cX10_empty 18 = .ok (.iconst 1, 1) := by decide +kernel
theorem dX10_empty_19 : decode cX10_empty 19 = .ok (.if_icmp .eq 6, 3) := by decide +kernel
theorem dX10_empty_22 : decode cX10_empty 22 = .ok (.goto 13, 3) := by decide +kernel
theorem dX10_empty_25 : decode cX10_empty 25 = .ok (.aload_n 0, 1) := by decide +kernel
theorem dX10_empty_26 : decode cX10_empty 26 = .ok (.getfield 9, 3) := by decide +kernel
theorem dX10_empty_29 : decode cX10_empty 29 = .ok (.iload_n 2, 1) := by decide +kernel
theorem dX10_empty_30 : decode cX10_empty 30 = .ok (.iconst 2, 1) := by decide +kernel
theorem dX10_empty_31 : decode cX10_empty 31 = .ok (.iastore, 1) := by decide +kernel
theorem dX10_empty_32 : decode cX10_empty 32 = .ok (.iinc 1 1, 3) := by decide +kernel
theorem dX10_empty_35 : decode cX10_empty 35 = .ok (.iinc 2 1, 3) := by decide +kernel
theorem dX10_empty_38 : decode cX10_empty 38 = .ok (.goto (-34), 3) := by decide +kernel
theorem dX10_empty_41 : decode cX10_empty 41 = .ok (.iload_n 1, 1) := by decide +kernel
theorem dX10_empty_42 : decode cX10_empty 42 = .ok (.ireturn, 1) := by decide +kernel
theorem dX10_passBy_0 : decode cX10_passBy 0 = .ok (.aload_n 0, 1) := by decide +kernel
theorem dX10_passBy_1 : decode cX10_passBy 1 = .ok (.getfield 9, 3) := by decide +kernel
theorem dX10_passBy_4 : decode cX10_passBy 4 = .ok (.bipush 20, 2) := by decide +kernel
theorem dX10_passBy_6 : decode cX10_passBy 6 = .ok (.sipush 9999, 3) := by decide +kernel
theorem dX10_passBy_9 : decode cX10_passBy 9 = .ok (.aload_n 0, 1) := by decide +kernel
theorem dX10_passBy_10 : decode cX10_passBy 10 = .ok (.getfield 9, 3) := by decide +kernel
theorem dX10_passBy_13 : decode cX10_passBy 13 = .ok (.bipush 20, 2) := by decide +kernel
theorem dX10_passBy_15 : decode cX10_passBy 15 = .ok (.iaload, 1) := by decide +kernel
theorem dX10_passBy_16 : decode cX10_passBy 16 = .ok (.iload_n 1, 1) := by decide +kernel
theorem dX10_passBy_17 : decode cX10_passBy 17 = .ok (.iadd, 1) := by decide +kernel
theorem dX10_passBy_18 : decode cX10_passBy 18 = .ok (.invokestatic 224, 3) := by decide +kernel
theorem dX10_passBy_21 : decode cX10_passBy 21 = .ok (.iastore, 1) := by decide +kernel
theorem dX10_passBy_22 : decode cX10_passBy 22 = .ok (.return_, 1) := by decide +kernel
theorem dX10_goMove_0 : decode cX10_goMove 0 = .ok (.aload_n 0, 1) := by decide +kernel
theorem dX10_goMove_1 : decode cX10_goMove 1 = .ok (.aload_n 0, 1) := by decide +kernel
theorem dX10_goMove_2 : decode cX10_goMove 2 = .ok (.getfield 9, 3) := by decide +kernel
theorem dX10_goMove_5 : decode cX10_goMove 5 = .ok (.bipush 17, 2) := by decide +kernel
theorem dX10_goMove_7 : decode cX10_goMove 7 = .ok (.iaload, 1) := by decide +kernel
theorem dX10_goMove_8 : decode cX10_goMove 8 = .ok (.iload_n 1, 1) := by decide +kernel
theorem dX10_goMove_9 : decode cX10_goMove 9 = .ok (.invokevirtual 261, 3) := by decide +kernel
theorem dX10_goMove_12 : decode cX10_goMove 12 = .ok (.istore_n 2, 1) := by decide +kernel
theorem dX10_goMove_13 : decode cX10_goMove 13 = .ok (.aload_n 0, 1) := by decide +kernel
theorem dX10_goMove_14 : decode cX10_goMove 14 = .ok (.aload_n 0, 1) := by decide +kernel
theorem dX10_goMove_15 : decode cX10_goMove 15 = .ok (.getfield 9, 3) := by decide +kernel
theorem dX10_goMove_18 : decode cX10_goMove 18 = .ok (.iconst 1, 1) := by decide +kernel
theorem dX10_goMove_19 : decode cX10_goMove 19 = .ok (.invokevirtual 244, 3) := by decide +kernel
theorem dX10_goMove_22 : decode cX10_goMove 22 = .ok (.ifCond .eq 28, 3) := by decide +kernel
theorem dX10_goMove_25 : decode cX10_goMove 25 = .ok (.aload_n 0, 1) := by decide +kernel
theorem dX10_goMove_26 : decode cX10_goMove 26 = .ok (.getfield 9, 3) := by decide +kernel
theorem dX10_goMove_29 : decode cX10_goMove 29 = .ok (.bipush 17, 2) := by decide +kernel
theorem dX10_goMove_31 : decode cX10_goMove 31 = .ok (.iaload, 1) := by decide +kernel
theorem dX10_goMove_32 : decode cX10_goMove 32 = .ok (.iconst (-1), 1) := by decide +kernel
theorem dX10_goMove_33 : decode cX10_goMove 33 = .ok (.if_icmp .eq 17, 3) := by decide +kernel
theorem dX10_goMove_36 : decode cX10_goMove 36 = .ok (.iload_n 2, 1) := by decide +kernel
theorem dX10_goMove_37 : decode cX10_goMove 37 = .ok (.aload_n 0, 1) := by decide +kernel
theorem dX10_goMove_38 : decode cX10_goMove 38 = .ok (.aload_n 0, 1) := by decide +kernel
theorem dX10_goMove_39 : decode cX10_goMove 39 = .ok (.getfield 9, 3) := by decide +kernel
theorem dX10_goMove_42 : decode cX10_goMove 42 = .ok (.bipush 17, 2) := by decide +kernel
theorem dX10_goMove_44 : decode cX10_goMove 44 = .ok (.iaload, 1) := by decide +kernel
theorem dX10_goMove_45 : decode cX10_goMove 45 = .ok (.invokevirtual 254, 3) := by decide +kernel
theorem dX10_goMove_48 : decode cX10_goMove 48 = .ok (.iadd, 1) := by decide +kernel
theorem dX10_goMove_49 : decode cX10_goMove 49 = .ok (.istore_n 2, 1) := by decide +kernel
theorem dX10_goMove_50 : decode cX10_goMove 50 = .ok (.aload_n 0, 1) := by decide +kernel
theorem dX10_goMove_51 : decode cX10_goMove 51 = .ok (.invokevirtual 264, 3) := by decide +kernel
theorem dX10_goMove_54 : decode cX10_goMove 54 = .ok (.pop, 1) := by decide +kernel
theorem dX10_goMove_55 : decode cX10_goMove 55 = .ok (.aload_n 0, 1) := by decide +kernel
theorem dX10_goMove_56 : decode cX10_goMove 56 = .ok (.getfield 9, 3) := by decide +kernel
theorem dX10_goMove_59 : decode cX10_goMove 59 = .ok (.bipush 17, 2) := by decide +kernel
theorem dX10_goMove_61 : decode cX10_goMove 61 = .ok (.iload_n 1, 1) := by decide +kernel
theorem dX10_goMove_62 : decode cX10_goMove 62 = .ok (.iastore, 1) := by decide +kernel
theorem dX10_goMove_63 : decode cX10_goMove 63 = .ok (.aload_n 0, 1) := by decide +kernel
theorem dX10_goMove_64 : decode cX10_goMove 64 = .ok (.iload_n 2, 1) := by decide +kernel
theorem dX10_goMove_65 : decode cX10_goMove 65 = .ok (.invokevirtual 267, 3) := by decide +kernel
theorem dX10_goMove_68 : decode cX10_goMove 68 = .ok (.iload_n 2, 1) := by decide +kernel
theorem dX10_goMove_69 : decode cX10_goMove 69 = .ok (.ireturn, 1) := by decide +kernel
theorem dX10_move_0 : decode cX10_move 0 = .ok (.aload_n 0, 1) := by decide +kernel
theorem dX10_move_1 : decode cX10_move 1 = .ok (.iconst 0, 1) := by decide +kernel
theorem dX10_move_2 : decode cX10_move 2 = .ok (.putfield 87, 3) := by decide +kernel
theorem dX10_move_5 : decode cX10_move 5 = .ok (.aload_n 0, 1) := by decide +kernel
theorem dX10_move_6 : decode cX10_move 6 = .ok (.iload_n 1, 1) := by decide +kernel
theorem dX10_move_7 : decode cX10_move 7 = .ok (.invokevirtual 270, 3) := by decide +kernel
theorem dX10_move_10 : decode cX10_move 10 = .ok (.istore_n 2, 1) := by decide +kernel
theorem dX10_move_11 : decode cX10_move 11 = .ok (.iload_n 2, 1) := by decide +kernel
theorem dX10_move_12 : decode cX10_move 12 = .ok (.ifCond .ge 5, 3) := by decide +kernel
theorem dX10_move_15 : decode cX10_move 15 = .ok (.iload_n 2, 1) := by decide +kernel
theorem dX10_move_16 : decode cX10_move 16 = .ok (.ireturn, 1) := by decide +kernel
theorem dX10_move_17 : decode cX10_move 17 = .ok (.aload_n 0, 1) := by decide +kernel
theorem dX10_move_18 : decode cX10_move 18 = .ok (.aload_n 0, 1) := by decide +kernel
theorem dX10_move_19 : decode cX10_move 19 = .ok (.getfield 9, 3) := by decide +kernel
theorem dX10_move_22 : decode cX10_move 22 = .ok (.invokevirtual 273, 3) := by decide +kernel
theorem dX10_move_25 : decode cX10_move 25 = .ok (.aload_n 0, 1) := by decide +kernel
theorem dX10_move_26 : decode cX10_move 26 = .ok (.iload_n 1, 1) := by decide +kernel
theorem dX10_move_27 : decode cX10_move 27 = .ok (.invokevirtual 277, 3) := by decide +kernel
theorem dX10_move_30 : decode cX10_move 30 = .ok (.ireturn, 1) := by decide +kernel
theorem dX10_foot_0 : decode cX10_foot 0 = .ok (.aload_n 0, 1) := by decide +kernel
theorem dX10_foot_1 : decode cX10_foot 1 = .ok (.iconst 0, 1) := by decide +kernel
theorem dX10_foot_2 : decode cX10_foot 2 = .ok (.putfield 87, 3) := by decide +kernel
theorem dX10_foot_5 : decode cX10_foot 5 = .ok (.iload_n 1, 1) := by decide +kernel
theorem dX10_foot_6 : decode cX10_foot 6 = .ok (.iconst 0, 1) := by decide +kernel
theorem dX10_foot_7 : decode cX10_foot 7 = .ok (.iconst 1, 1) := by decide +kernel
theorem dX10_foot_8 : decode cX10_foot 8 = .ok (.invokestatic 97, 3) := by decide +kernel
theorem dX10_foot_11 : decode cX10_foot 11 = .ok (.ifCond .ne 5, 3) := by decide +kernel
theorem dX10_foot_14 : decode cX10_foot 14 = .ok (.iconst (-1), 1) := by decide +kernel
theorem dX10_foot_15 : decode cX10_foot 15 = .ok (.ireturn, 1) := by decide +kernel
theorem dX10_foot_16 : decode cX10_foot 16 = .ok (.aload_n 0, 1) := by decide +kernel
theorem dX10_foot_17 : decode cX10_foot 17 = .ok (.aload_n 0, 1) := by decide +kernel
theorem dX10_foot_18 : decode cX10_foot 18 = .ok (.getfield 9, 3) := by decide +kernel
theorem dX10_foot_21 : decode cX10_foot 21 = .ok (.invokevirtual 273, 3) := by decide +kernel
theorem dX10_foot_24 : decode cX10_foot 24 = .ok (.aload_n 0, 1) := by decide +kernel
theorem dX10_foot_25 : decode cX10_foot 25 = .ok (.getfield 9, 3) := by decide +kernel
theorem dX10_foot_28 : decode cX10_foot 28 = .ok (.bipush 18, 2) := by decide +kernel
theorem dX10_foot_30 : decode cX10_foot 30 = .ok (.iaload, 1) := by decide +kernel
theorem dX10_foot_31 : decode cX10_foot 31 = .ok (.istore_n 2, 1) := by decide +kernel
theorem dX10_foot_32 : decode cX10_foot 32 = .ok (.aload_n 0, 1) := by decide +kernel
theorem dX10_foot_33 : decode cX10_foot 33 = .ok (.getfield 9, 3) := by decide +kernel
theorem dX10_foot_36 : decode cX10_foot 36 = .ok (.bipush 18, 2) := by decide +kernel
theorem dX10_foot_38 : decode cX10_foot 38 = .ok (.iload_n 1, 1) := by decide +kernel
theorem dX10_foot_39 : decode cX10_foot 39 = .ok (.iastore, 1) := by decide +kernel
theorem dX10_foot_40 : decode cX10_foot 40 = .ok (.iload_n 2, 1) := by decide +kernel
theorem dX10_foot_41 : decode cX10_foot 41 = .ok (.ireturn, 1) := by decide +kernel
theorem dX10_reachBy_0 : decode cX10_reachBy 0 = .ok (.aload_n 0, 1) := by decide +kernel
theorem dX10_reachBy_1 : decode cX10_reachBy 1 = .ok (.getfield 31, 3) := by decide +kernel
theorem dX10_reachBy_4 : decode cX10_reachBy 4 = .ok (.iconst 0, 1) := by decide +kernel
theorem dX10_reachBy_5 : decode cX10_reachBy 5 = .ok (.iaload, 1) := by decide +kernel
theorem dX10_reachBy_6 : decode cX10_reachBy 6 = .ok (.iload_n 1, 1) := by decide +kernel
theorem dX10_reachBy_7 : decode cX10_reachBy 7 = .ok (.aload_n 0, 1) := by decide +kernel
theorem dX10_reachBy_8 : decode cX10_reachBy 8 = .ok (.getfield 31, 3) := by decide +kernel
theorem dX10_reachBy_11 : decode cX10_reachBy 11 = .ok (.iconst 1, 1) := by decide +kernel
theorem dX10_reachBy_12 : decode cX10_reachBy 12 = .ok (.iaload, 1) := by decide +kernel
theorem dX10_reachBy_13 : decode cX10_reachBy 13 = .ok (.imul, 1) := by decide +kernel
theorem dX10_reachBy_14 : decode cX10_reachBy 14 = .ok (.iadd, 1) := by decide +kernel
theorem dX10_reachBy_15 : decode cX10_reachBy 15 = .ok (.iload_n 2, 1) := by decide +kernel
theorem dX10_reachBy_16 : decode cX10_reachBy 16 = .ok (.aload_n 0, 1) := by decide +kernel
theorem dX10_reachBy_17 : decode cX10_reachBy 17 = .ok (.getfield 31, 3) := by decide +kernel
theorem dX10_reachBy_20 : decode cX10_reachBy 20 = .ok (.iconst 2, 1) := by decide +kernel
theorem dX10_reachBy_21 : decode cX10_reachBy 21 = .ok (.iaload, 1) := by decide +kernel
theorem dX10_reachBy_22 : decode cX10_reachBy 22 = .ok (.imul, 1) := by decide +kernel
theorem dX10_reachBy_23 : decode cX10_reachBy 23 = .ok (.iadd, 1) := by decide +kernel
theorem dX10_reachBy_24 : decode cX10_reachBy 24 = .ok (.ireturn, 1) := by decide +kernel
theorem dX10_isWithin_0 : decode cX10_isWithin 0 = .ok (.aload_n 0, 1) := by decide +kernel
theorem dX10_isWithin_1 : decode cX10_isWithin 1 = .ok (.iload_n 1, 1) := by decide +kernel
theorem dX10_isWithin_2 : decode cX10_isWithin 2 = .ok (.iload_n 2, 1) := by decide +kernel
theorem dX10_isWithin_3 : decode cX10_isWithin 3 = .ok (.invokevirtual 190, 3) := by decide +kernel
theorem dX10_isWithin_6 : decode cX10_isWithin 6 = .ok (.aload_n 0, 1) := by decide +kernel
theorem dX10_isWithin_7 : decode cX10_isWithin 7 = .ok (.iload_n 1, 1) := by decide +kernel
theorem dX10_isWithin_8 : decode cX10_isWithin 8 = .ok (.iload_n 2, 1) := by decide +kernel
theorem dX10_isWithin_9 : decode cX10_isWithin 9 = .ok (.invokevirtual 190, 3) := by decide +kernel
theorem dX10_isWithin_12 : decode cX10_isWithin 12 = .ok (.imul, 1) := by decide +kernel
theorem dX10_isWithin_13 : decode cX10_isWithin 13 = .ok (.aload_n 0, 1) := by decide +kernel
theorem dX10_isWithin_14 : decode cX10_isWithin 14 = .ok (.iload_n 1, 1) := by decide +kernel
theorem dX10_isWithin_15 : decode cX10_isWithin 15 = .ok (.iload_n 2, 1) := by decide +kernel
theorem dX10_isWithin_16 : decode cX10_isWithin 16 = .ok (.invokevirtual 194, 3) := by decide +kernel
theorem dX10_isWithin_19 : decode cX10_isWithin 19 = .ok (.aload_n 0, 1) := by decide +kernel
theorem dX10_isWithin_20 : decode cX10_isWithin 20 = .ok (.iload_n 1, 1) := by decide +kernel
theorem dX10_isWithin_21 : decode cX10_isWithin 21 = .ok (.iload_n 2, 1) := by decide +kernel
theorem dX10_isWithin_22 : decode cX10_isWithin 22 = .ok (.invokevirtual 194, 3) := by decide +kernel
theorem dX10_isWithin_25 : decode cX10_isWithin 25 = .ok (.imul, 1) := by decide +kernel
theorem dX10_isWithin_26 : decode cX10_isWithin 26 = .ok (.iadd, 1) := by decide +kernel
theorem dX10_isWithin_27 : decode cX10_isWithin 27 = .ok (.iload_n 3, 1) := by decide +kernel
theorem dX10_isWithin_28 : decode cX10_isWithin 28 = .ok (.iload_n 3, 1) := by decide +kernel
theorem dX10_isWithin_29 : decode cX10_isWithin 29 = .ok (.imul, 1) := by decide +kernel
theorem dX10_isWithin_30 : decode cX10_isWithin 30 = .ok (.if_icmp .gt 7, 3) := by decide +kernel
theorem dX10_isWithin_33 : decode cX10_isWithin 33 = .ok (.iconst 1, 1) := by decide +kernel
theorem dX10_isWithin_34 : decode cX10_isWithin 34 = .ok (.goto 4, 3) := by decide +kernel
theorem dX10_isWithin_37 : decode cX10_isWithin 37 = .ok (.iconst 0, 1) := by decide +kernel
theorem dX10_isWithin_38 : decode cX10_isWithin 38 = .ok (.ireturn, 1) := by decide +kernel
theorem dX10_refusesPick_0 : decode cX10_refusesPick 0 = .ok (.aload_n 0, 1) := by decide +kernel
theorem dX10_refusesPick_1 : decode cX10_refusesPick 1 = .ok (.iload_n 1, 1) := by decide +kernel
theorem dX10_refusesPick_2 : decode cX10_refusesPick 2 = .ok (.invokevirtual 237, 3) := by decide +kernel
theorem dX10_refusesPick_5 : decode cX10_refusesPick 5 = .ok (.ifCond .eq 12, 3) := by decide +kernel
theorem dX10_refusesPick_8 : decode cX10_refusesPick 8 = .ok (.iload_n 2, 1) := by decide +kernel
theorem dX10_refusesPick_9 : decode cX10_refusesPick 9 = .ok (.iconst 0, 1) := by decide +kernel
theorem dX10_refusesPick_10 : decode cX10_refusesPick 10 = .ok (.iconst 1, 1) := by decide +kernel
theorem dX10_refusesPick_11 : decode cX10_refusesPick 11 = .ok (.invokestatic 97, 3) := by decide +kernel
theorem dX10_refusesPick_14 : decode cX10_refusesPick 14 = .ok (.ifCond .ne 5, 3) := by decide +kernel
theorem dX10_refusesPick_17 : decode cX10_refusesPick 17 = .ok (.iconst (-1), 1) := by decide +kernel
theorem dX10_refusesPick_18 : decode cX10_refusesPick 18 = .ok (.ireturn, 1) := by decide +kernel
theorem dX10_refusesPick_19 : decode cX10_refusesPick 19 = .ok (.aload_n 0, 1) := by decide +kernel
theorem dX10_refusesPick_20 : decode cX10_refusesPick 20 = .ok (.getfield 9, 3) := by decide +kernel
theorem dX10_refusesPick_23 : decode cX10_refusesPick 23 = .ok (.iload_n 1, 1) := by decide +kernel
theorem dX10_refusesPick_24 : decode cX10_refusesPick 24 = .ok (.iaload, 1) := by decide +kernel
theorem dX10_refusesPick_25 : decode cX10_refusesPick 25 = .ok (.ifCond .eq 6, 3) := by decide +kernel
theorem dX10_refusesPick_28 : decode cX10_refusesPick 28 = .ok (.bipush (-2), 2) := by decide +kernel
theorem dX10_refusesPick_30 : decode cX10_refusesPick 30 = .ok (.ireturn, 1) := by decide +kernel
theorem dX10_refusesPick_31 : decode cX10_refusesPick 31 = .ok (.aload_n 0, 1) := by decide +kernel
theorem dX10_refusesPick_32 : decode cX10_refusesPick 32 = .ok (.getfield 22, 3) := by decide +kernel
theorem dX10_refusesPick_35 : decode cX10_refusesPick 35 = .ok (.iload_n 1, 1) := by decide +kernel
theorem dX10_refusesPick_36 : decode cX10_refusesPick 36 = .ok (.iaload, 1) := by decide +kernel
theorem dX10_refusesPick_37 : decode cX10_refusesPick 37 = .ok (.aload_n 0, 1) := by decide +kernel
theorem dX10_refusesPick_38 : decode cX10_refusesPick 38 = .ok (.getfield 9, 3) := by decide +kernel
theorem dX10_refusesPick_41 : decode cX10_refusesPick 41 = .ok (.bipush 19, 2) := by decide +kernel
theorem dX10_refusesPick_43 : decode cX10_refusesPick 43 = .ok (.iaload, 1) := by decide +kernel
theorem dX10_refusesPick_44 : decode cX10_refusesPick 44 = .ok (.if_icmp .le 6, 3) := by decide +kernel
theorem dX10_refusesPick_47 : decode cX10_refusesPick 47 = .ok (.bipush (-3), 2) := by decide +kernel
theorem dX10_refusesPick_49 : decode cX10_refusesPick 49 = .ok (.ireturn, 1) := by decide +kernel
theorem dX10_refusesPick_50 : decode cX10_refusesPick 50 = .ok (.aload_n 0, 1) := by decide +kernel
theorem dX10_refusesPick_51 : decode cX10_refusesPick 51 = .ok (.getfield 9, 3) := by decide +kernel
theorem dX10_refusesPick_54 : decode cX10_refusesPick 54 = .ok (.bipush 17, 2) := by decide +kernel
theorem dX10_refusesPick_56 : decode cX10_refusesPick 56 = .ok (.iaload, 1) := by decide +kernel
theorem dX10_refusesPick_57 : decode cX10_refusesPick 57 = .ok (.iconst (-1), 1) := by decide +kernel
theorem dX10_refusesPick_58 : decode cX10_refusesPick 58 = .ok (.if_icmp .eq 30, 3) := by decide +kernel
theorem dX10_refusesPick_61 : decode cX10_refusesPick 61 = .ok (.aload_n 0, 1) := by decide +kernel
theorem dX10_refusesPick_62 : decode cX10_refusesPick 62 = .ok (.iload_n 1, 1) := by decide +kernel
theorem dX10_refusesPick_63 : decode cX10_refusesPick 63 = .ok (.aload_n 0, 1) := by decide +kernel
theorem dX10_refusesPick_64 : decode cX10_refusesPick 64 = .ok (.getfield 9, 3) := by decide +kernel
theorem dX10_refusesPick_67 : decode cX10_refusesPick 67 = .ok (.bipush 17, 2) := by decide +kernel
theorem dX10_refusesPick_69 : decode cX10_refusesPick 69 = .ok (.iaload, 1) := by decide +kernel
theorem dX10_refusesPick_70 : decode cX10_refusesPick 70 = .ok (.aload_n 0, 1) := by decide +kernel
theorem dX10_refusesPick_71 : decode cX10_refusesPick 71 = .ok (.aload_n 0, 1) := by decide +kernel
theorem dX10_refusesPick_72 : decode cX10_refusesPick 72 = .ok (.getfield 9, 3) := by decide +kernel
theorem dX10_refusesPick_75 : decode cX10_refusesPick 75 = .ok (.bipush 18, 2) := by decide +kernel
theorem dX10_refusesPick_77 : decode cX10_refusesPick 77 = .ok (.iaload, 1) := by decide +kernel
theorem dX10_refusesPick_78 : decode cX10_refusesPick 78 = .ok (.iload_n 2, 1) := by decide +kernel
theorem dX10_refusesPick_79 : decode cX10_refusesPick 79 = .ok (.invokevirtual 214, 3) := by decide +kernel
theorem dX10_refusesPick_82 : decode cX10_refusesPick 82 = .ok (.invokevirtual 217, 3) := by decide +kernel
theorem dX10_refusesPick_85 : decode cX10_refusesPick 85 = .ok (.ifCond .ne 6, 3) := by decide +kernel
theorem dX10_refusesPick_88 : decode cX10_refusesPick 88 = .ok (.bipush (-4), 2) := by decide +kernel
theorem dX10_refusesPick_90 : decode cX10_refusesPick 90 = .ok (.ireturn, 1) := by decide +kernel
theorem dX10_refusesPick_91 : decode cX10_refusesPick 91 = .ok (.aload_n 0, 1) := by decide +kernel
theorem dX10_refusesPick_92 : decode cX10_refusesPick 92 = .ok (.aload_n 0, 1) := by decide +kernel
theorem dX10_refusesPick_93 : decode cX10_refusesPick 93 = .ok (.getfield 9, 3) := by decide +kernel
theorem dX10_refusesPick_96 : decode cX10_refusesPick 96 = .ok (.iconst 1, 1) := by decide +kernel
theorem dX10_refusesPick_97 : decode cX10_refusesPick 97 = .ok (.invokevirtual 244, 3) := by decide +kernel
theorem dX10_refusesPick_100 : decode cX10_refusesPick 100 = .ok (.invokestatic 280, 3) := by decide +kernel
theorem dX10_refusesPick_103 : decode cX10_refusesPick 103 = .ok (.aload_n 0, 1) := by decide +kernel
theorem dX10_refusesPick_104 : decode cX10_refusesPick 104 = .ok (.getfield 31, 3) := by decide +kernel
theorem dX10_refusesPick_107 : decode cX10_refusesPick 107 = .ok (.iconst 4, 1) := by decide +kernel
theorem dX10_refusesPick_108 : decode cX10_refusesPick 108 = .ok (.iaload, 1) := by decide +kernel
theorem dX10_refusesPick_109 : decode cX10_refusesPick 109 = .ok (.if_icmp .lt 8, 3) := by decide +kernel
theorem dX10_refusesPick_112 : decode cX10_refusesPick 112 = .ok (.bipush (-5), 2) := by decide +kernel
theorem dX10_refusesPick_114 : decode cX10_refusesPick 114 = .ok (.goto 4, 3) := by decide +kernel
theorem dX10_refusesPick_117 : decode cX10_refusesPick 117 = .ok (.iconst 0, 1) := by decide +kernel
theorem dX10_refusesPick_118 : decode cX10_refusesPick 118 = .ok (.ireturn, 1) := by decide +kernel
theorem dX10_secondsOf_0 : decode cX10_secondsOf 0 = .ok (.iconst 2, 1) := by decide +kernel
theorem dX10_secondsOf_1 : decode cX10_secondsOf 1 = .ok (.aload_n 0, 1) := by decide +kernel
theorem dX10_secondsOf_2 : decode cX10_secondsOf 2 = .ok (.iload_n 1, 1) := by decide +kernel
theorem dX10_secondsOf_3 : decode cX10_secondsOf 3 = .ok (.iload_n 2, 1) := by decide +kernel
theorem dX10_secondsOf_4 : decode cX10_secondsOf 4 = .ok (.invokevirtual 190, 3) := by decide +kernel
theorem dX10_secondsOf_7 : decode cX10_secondsOf 7 = .ok (.iconst 4, 1) := by decide +kernel
theorem dX10_secondsOf_8 : decode cX10_secondsOf 8 = .ok (.idiv, 1) := by decide +kernel
theorem dX10_secondsOf_9 : decode cX10_secondsOf 9 = .ok (.iadd, 1) := by decide +kernel
theorem dX10_secondsOf_10 : decode cX10_secondsOf 10 = .ok (.aload_n 0, 1) := by decide +kernel
theorem dX10_secondsOf_11 : decode cX10_secondsOf 11 = .ok (.iload_n 1, 1) := by decide +kernel
theorem dX10_secondsOf_12 : decode cX10_secondsOf 12 = .ok (.iload_n 2, 1) := by decide +kernel
theorem dX10_secondsOf_13 : decode cX10_secondsOf 13 = .ok (.invokevirtual 194, 3) := by decide +kernel
theorem dX10_secondsOf_16 : decode cX10_secondsOf 16 = .ok (.iconst 2, 1) := by decide +kernel
theorem dX10_secondsOf_17 : decode cX10_secondsOf 17 = .ok (.idiv, 1) := by decide +kernel
theorem dX10_secondsOf_18 : decode cX10_secondsOf 18 = .ok (.iadd, 1) := by decide +kernel
theorem dX10_secondsOf_19 : decode cX10_secondsOf 19 = .ok (.istore 5, 2) := by decide +kernel
theorem dX10_secondsOf_21 : decode cX10_secondsOf 21 = .ok (.aload_n 0, 1) := by decide +kernel
theorem dX10_secondsOf_22 : decode cX10_secondsOf 22 = .ok (.getfield 203, 3) := by decide +kernel
theorem dX10_secondsOf_25 : decode cX10_secondsOf 25 = .ok (.ifCond .le 55, 3) := by decide +kernel
theorem dX10_secondsOf_28 : decode cX10_secondsOf 28 = .ok (.aload_n 0, 1) := by decide +kernel
theorem dX10_secondsOf_29 : decode cX10_secondsOf 29 = .ok (.aload_n 0, 1) := by decide +kernel
theorem dX10_secondsOf_30 : decode cX10_secondsOf 30 = .ok (.getfield 47, 3) := by decide +kernel
theorem dX10_secondsOf_33 : decode cX10_secondsOf 33 = .ok (.aload_n 0, 1) := by decide +kernel
theorem dX10_secondsOf_34 : decode cX10_secondsOf 34 = .ok (.getfield 203, 3) := by decide +kernel
theorem dX10_secondsOf_37 : decode cX10_secondsOf 37 = .ok (.bipush 40, 2) := by decide +kernel
theorem dX10_secondsOf_39 : decode cX10_secondsOf 39 = .ok (.invokevirtual 152, 3) := by decide +kernel
theorem dX10_secondsOf_42 : decode cX10_secondsOf 42 = .ok (.aload_n 0, 1) := by decide +kernel
theorem dX10_secondsOf_43 : decode cX10_secondsOf 43 = .ok (.iconst 1, 1) := by decide +kernel
theorem dX10_secondsOf_44 : decode cX10_secondsOf 44 = .ok (.putfield 177, 3) := by decide +kernel
theorem dX10_secondsOf_47 : decode cX10_secondsOf 47 = .ok (.aload_n 0, 1) := by decide +kernel
theorem dX10_secondsOf_48 : decode cX10_secondsOf 48 = .ok (.iload_n 1, 1) := by decide +kernel
theorem dX10_secondsOf_49 : decode cX10_secondsOf 49 = .ok (.putfield 184, 3) := by decide +kernel
theorem dX10_secondsOf_52 : decode cX10_secondsOf 52 = .ok (.aload_n 0, 1) := by decide +kernel
theorem dX10_secondsOf_53 : decode cX10_secondsOf 53 = .ok (.iload_n 2, 1) := by decide +kernel
theorem dX10_secondsOf_54 : decode cX10_secondsOf 54 = .ok (.putfield 187, 3) := by decide +kernel
theorem dX10_secondsOf_57 : decode cX10_secondsOf 57 = .ok (.aload_n 0, 1) := by decide +kernel
theorem dX10_secondsOf_58 : decode cX10_secondsOf 58 = .ok (.iload_n 3, 1) := by decide +kernel
theorem dX10_secondsOf_59 : decode cX10_secondsOf 59 = .ok (.putfield 200, 3) := by decide +kernel
theorem dX10_secondsOf_62 : decode cX10_secondsOf 62 = .ok (.aload_n 0, 1) := by decide +kernel
theorem dX10_secondsOf_63 : decode cX10_secondsOf 63 = .ok (.iload 4, 2) := by decide +kernel
theorem dX10_secondsOf_65 : decode cX10_secondsOf 65 = .ok (.putfield 197, 3) := by decide +kernel
theorem dX10_secondsOf_68 : decode cX10_secondsOf 68 = .ok (.aload_n 0, 1) := by decide +kernel
theorem dX10_secondsOf_69 : decode cX10_secondsOf 69 = .ok (.iconst 0, 1) := by decide +kernel
theorem dX10_secondsOf_70 : decode cX10_secondsOf 70 = .ok (.invokevirtual 174, 3) := by decide +kernel
theorem dX10_secondsOf_73 : decode cX10_secondsOf 73 = .ok (.istore 5, 2) := by decide +kernel
theorem dX10_secondsOf_75 : decode cX10_secondsOf 75 = .ok (.aload_n 0, 1) := by decide +kernel
theorem dX10_secondsOf_76 : decode cX10_secondsOf 76 = .ok (.iconst 0, 1) := by decide +kernel
theorem dX10_secondsOf_77 : decode cX10_secondsOf 77 = .ok (.putfield 177, 3) := by decide +kernel
theorem dX10_secondsOf_80 : decode cX10_secondsOf 80 = .ok (.iconst 1, 1) := by decide +kernel
theorem dX10_secondsOf_81 : decode cX10_secondsOf 81 = .ok (.bipush 99, 2) := by decide +kernel
theorem dX10_secondsOf_83 : decode cX10_secondsOf 83 = .ok (.iload 5, 2) := by decide +kernel
theorem dX10_secondsOf_85 : decode cX10_secondsOf 85 = .ok (.invokestatic 224, 3) := by decide +kernel
theorem dX10_secondsOf_88 : decode cX10_secondsOf 88 = .ok (.invokestatic 211, 3) := by decide +kernel
theorem dX10_secondsOf_91 : decode cX10_secondsOf 91 = .ok (.ireturn, 1) := by decide +kernel
theorem dX10_goPick_0 : decode cX10_goPick 0 = .ok (.aload_n 0, 1) := by decide +kernel
theorem dX10_goPick_1 : decode cX10_goPick 1 = .ok (.iload_n 1, 1) := by decide +kernel
theorem dX10_goPick_2 : decode cX10_goPick 2 = .ok (.aload_n 0, 1) := by decide +kernel
theorem dX10_goPick_3 : decode cX10_goPick 3 = .ok (.getfield 9, 3) := by decide +kernel
theorem dX10_goPick_6 : decode cX10_goPick 6 = .ok (.bipush 17, 2) := by decide +kernel
theorem dX10_goPick_8 : decode cX10_goPick 8 = .ok (.iaload, 1) := by decide +kernel
theorem dX10_goPick_9 : decode cX10_goPick 9 = .ok (.iload_n 2, 1) := by decide +kernel
theorem dX10_goPick_10 : decode cX10_goPick 10 = .ok (.aload_n 0, 1) := by decide +kernel
theorem dX10_goPick_11 : decode cX10_goPick 11 = .ok (.aload_n 0, 1) := by decide +kernel
theorem dX10_goPick_12 : decode cX10_goPick 12 = .ok (.getfield 9, 3) := by decide +kernel
theorem dX10_goPick_15 : decode cX10_goPick 15 = .ok (.iconst 1, 1) := by decide +kernel
theorem dX10_goPick_16 : decode cX10_goPick 16 = .ok (.invokevirtual 244, 3) := by decide +kernel
theorem dX10_goPick_19 : decode cX10_goPick 19 = .ok (.invokestatic 280, 3) := by decide +kernel
theorem dX10_goPick_22 : decode cX10_goPick 22 = .ok (.invokevirtual 285, 3) := by decide +kernel
theorem dX10_goPick_25 : decode cX10_goPick 25 = .ok (.istore_n 3, 1) := by decide +kernel
theorem dX10_goPick_26 : decode cX10_goPick 26 = .ok (.aload_n 0, 1) := by decide +kernel
theorem dX10_goPick_27 : decode cX10_goPick 27 = .ok (.getfield 9, 3) := by decide +kernel
theorem dX10_goPick_30 : decode cX10_goPick 30 = .ok (.bipush 16, 2) := by decide +kernel
theorem dX10_goPick_32 : decode cX10_goPick 32 = .ok (.dup2, 1) := by decide +kernel
theorem dX10_goPick_33 : decode cX10_goPick 33 = .ok (.iaload, 1) := by decide +kernel
theorem dX10_goPick_34 : decode cX10_goPick 34 = .ok (.aload_n 0, 1) := by decide +kernel
theorem dX10_goPick_35 : decode cX10_goPick 35 = .ok (.iload_n 1, 1) := by decide +kernel
theorem dX10_goPick_36 : decode cX10_goPick 36 = .ok (.aload_n 0, 1) := by decide +kernel
theorem dX10_goPick_37 : decode cX10_goPick 37 = .ok (.aload_n 0, 1) := by decide +kernel
theorem dX10_goPick_38 : decode cX10_goPick 38 = .ok (.getfield 9, 3) := by decide +kernel
theorem dX10_goPick_41 : decode cX10_goPick 41 = .ok (.iconst 0, 1) := by decide +kernel
theorem dX10_goPick_42 : decode cX10_goPick 42 = .ok (.invokevirtual 244, 3) := by decide +kernel
theorem dX10_goPick_45 : decode cX10_goPick 45 = .ok (.invokevirtual 248, 3) := by decide +kernel
theorem dX10_goPick_48 : decode cX10_goPick 48 = .ok (.ior, 1) := by decide +kernel
theorem dX10_goPick_49 : decode cX10_goPick 49 = .ok (.iastore, 1) := by decide +kernel
theorem dX10_goPick_50 : decode cX10_goPick 50 = .ok (.aload_n 0, 1) := by decide +kernel
theorem dX10_goPick_51 : decode cX10_goPick 51 = .ok (.getfield 9, 3) := by decide +kernel
theorem dX10_goPick_54 : decode cX10_goPick 54 = .ok (.iload_n 1, 1) := by decide +kernel
theorem dX10_goPick_55 : decode cX10_goPick 55 = .ok (.iconst 1, 1) := by decide +kernel
theorem dX10_goPick_56 : decode cX10_goPick 56 = .ok (.iastore, 1) := by decide +kernel
theorem dX10_goPick_57 : decode cX10_goPick 57 = .ok (.aload_n 0, 1) := by decide +kernel
theorem dX10_goPick_58 : decode cX10_goPick 58 = .ok (.iload_n 3, 1) := by decide +kernel
theorem dX10_goPick_59 : decode cX10_goPick 59 = .ok (.invokevirtual 267, 3) := by decide +kernel
theorem dX10_goPick_62 : decode cX10_goPick 62 = .ok (.iload_n 3, 1) := by decide +kernel
theorem dX10_goPick_63 : decode cX10_goPick 63 = .ok (.ireturn, 1) := by decide +kernel
theorem dX10_pick_0 : decode cX10_pick 0 = .ok (.aload_n 0, 1) := by decide +kernel
theorem dX10_pick_1 : decode cX10_pick 1 = .ok (.iconst 0, 1) := by decide +kernel
theorem dX10_pick_2 : decode cX10_pick 2 = .ok (.putfield 87, 3) := by decide +kernel
theorem dX10_pick_5 : decode cX10_pick 5 = .ok (.aload_n 0, 1) := by decide +kernel
theorem dX10_pick_6 : decode cX10_pick 6 = .ok (.iload_n 1, 1) := by decide +kernel
theorem dX10_pick_7 : decode cX10_pick 7 = .ok (.iload_n 2, 1) := by decide +kernel
theorem dX10_pick_8 : decode cX10_pick 8 = .ok (.invokevirtual 289, 3) := by decide +kernel
theorem dX10_pick_11 : decode cX10_pick 11 = .ok (.istore_n 3, 1) := by decide +kernel
theorem dX10_pick_12 : decode cX10_pick 12 = .ok (.iload_n 3, 1) := by decide +kernel
theorem dX10_pick_13 : decode cX10_pick 13 = .ok (.ifCond .ge 5, 3) := by decide +kernel
theorem dX10_pick_16 : decode cX10_pick 16 = .ok (.iload_n 3, 1) := by decide +kernel
theorem dX10_pick_17 : decode cX10_pick 17 = .ok (.ireturn, 1) := by decide +kernel
theorem dX10_pick_18 : decode cX10_pick 18 = .ok (.aload_n 0, 1) := by decide +kernel
theorem dX10_pick_19 : decode cX10_pick 19 = .ok (.aload_n 0, 1) := by decide +kernel
theorem dX10_pick_20 : decode cX10_pick 20 = .ok (.getfield 9, 3) := by decide +kernel
theorem dX10_pick_23 : decode cX10_pick 23 = .ok (.invokevirtual 273, 3) := by decide +kernel
theorem dX10_pick_26 : decode cX10_pick 26 = .ok (.aload_n 0, 1) := by decide +kernel
theorem dX10_pick_27 : decode cX10_pick 27 = .ok (.iload_n 1, 1) := by decide +kernel
theorem dX10_pick_28 : decode cX10_pick 28 = .ok (.iload_n 2, 1) := by decide +kernel
theorem dX10_pick_29 : decode cX10_pick 29 = .ok (.invokevirtual 292, 3) := by decide +kernel
theorem dX10_pick_32 : decode cX10_pick 32 = .ok (.ireturn, 1) := by decide +kernel
theorem dX10_canDown_0 : decode cX10_canDown 0 = .ok (.aload_n 0, 1) := by decide +kernel
theorem dX10_canDown_1 : decode cX10_canDown 1 = .ok (.getfield 9, 3) := by decide +kernel
theorem dX10_canDown_4 : decode cX10_canDown 4 = .ok (.bipush 17, 2) := by decide +kernel
theorem dX10_canDown_6 : decode cX10_canDown 6 = .ok (.iaload, 1) := by decide +kernel
theorem dX10_canDown_7 : decode cX10_canDown 7 = .ok (.iconst (-1), 1) := by decide +kernel
theorem dX10_canDown_8 : decode cX10_canDown 8 = .ok (.if_icmp .eq 19, 3) := by decide +kernel
theorem dX10_canDown_11 : decode cX10_canDown 11 = .ok (.aload_n 0, 1) := by decide +kernel
theorem dX10_canDown_12 : decode cX10_canDown 12 = .ok (.aload_n 0, 1) := by decide +kernel
theorem dX10_canDown_13 : decode cX10_canDown 13 = .ok (.getfield 9, 3) := by decide +kernel
theorem dX10_canDown_16 : decode cX10_canDown 16 = .ok (.iconst 1, 1) := by decide +kernel
theorem dX10_canDown_17 : decode cX10_canDown 17 = .ok (.invokevirtual 244, 3) := by decide +kernel
theorem dX10_canDown_20 : decode cX10_canDown 20 = .ok (.ifCond .eq 7, 3) := by decide +kernel
theorem dX10_canDown_23 : decode cX10_canDown 23 = .ok (.iconst 1, 1) := by decide +kernel
theorem dX10_canDown_24 : decode cX10_canDown 24 = .ok (.goto 4, 3) := by decide +kernel
theorem dX10_canDown_27 : decode cX10_canDown 27 = .ok (.iconst 0, 1) := by decide +kernel
theorem dX10_canDown_28 : decode cX10_canDown 28 = .ok (.ireturn, 1) := by decide +kernel
theorem dX10_goDown_0 : decode cX10_goDown 0 = .ok (.aload_n 0, 1) := by decide +kernel
theorem dX10_goDown_1 : decode cX10_goDown 1 = .ok (.aload_n 0, 1) := by decide +kernel
theorem dX10_goDown_2 : decode cX10_goDown 2 = .ok (.aload_n 0, 1) := by decide +kernel
theorem dX10_goDown_3 : decode cX10_goDown 3 = .ok (.getfield 9, 3) := by decide +kernel
theorem dX10_goDown_6 : decode cX10_goDown 6 = .ok (.bipush 17, 2) := by decide +kernel
theorem dX10_goDown_8 : decode cX10_goDown 8 = .ok (.iaload, 1) := by decide +kernel
theorem dX10_goDown_9 : decode cX10_goDown 9 = .ok (.invokevirtual 254, 3) := by decide +kernel
theorem dX10_goDown_12 : decode cX10_goDown 12 = .ok (.invokevirtual 267, 3) := by decide +kernel
theorem dX10_goDown_15 : decode cX10_goDown 15 = .ok (.aload_n 0, 1) := by decide +kernel
theorem dX10_goDown_16 : decode cX10_goDown 16 = .ok (.invokevirtual 264, 3) := by decide +kernel
theorem dX10_goDown_19 : decode cX10_goDown 19 = .ok (.ireturn, 1) := by decide +kernel
theorem dX10_down_0 : decode cX10_down 0 = .ok (.aload_n 0, 1) := by decide +kernel
theorem dX10_down_1 : decode cX10_down 1 = .ok (.iconst 0, 1) := by decide +kernel
theorem dX10_down_2 : decode cX10_down 2 = .ok (.putfield 87, 3) := by decide +kernel
theorem dX10_down_5 : decode cX10_down 5 = .ok (.aload_n 0, 1) := by decide +kernel
theorem dX10_down_6 : decode cX10_down 6 = .ok (.invokevirtual 295, 3) := by decide +kernel
theorem dX10_down_9 : decode cX10_down 9 = .ok (.ifCond .ne 6, 3) := by decide +kernel
theorem dX10_down_12 : decode cX10_down 12 = .ok (.bipush (-2), 2) := by decide +kernel
theorem dX10_down_14 : decode cX10_down 14 = .ok (.ireturn, 1) := by decide +kernel
theorem dX10_down_15 : decode cX10_down 15 = .ok (.aload_n 0, 1) := by decide +kernel
theorem dX10_down_16 : decode cX10_down 16 = .ok (.aload_n 0, 1) := by decide +kernel
theorem dX10_down_17 : decode cX10_down 17 = .ok (.getfield 9, 3) := by decide +kernel
theorem dX10_down_20 : decode cX10_down 20 = .ok (.invokevirtual 273, 3) := by decide +kernel
theorem dX10_down_23 : decode cX10_down 23 = .ok (.aload_n 0, 1) := by decide +kernel
theorem dX10_down_24 : decode cX10_down 24 = .ok (.invokevirtual 298, 3) := by decide +kernel
theorem dX10_down_27 : decode cX10_down 27 = .ok (.ireturn, 1) := by decide +kernel
theorem dX10_ripeOnes_0 : decode cX10_ripeOnes 0 = .ok (.iconst 0, 1) := by decide +kernel
theorem dX10_ripeOnes_1 : decode cX10_ripeOnes 1 = .ok (.istore_n 2, 1) := by decide +kernel
theorem dX10_ripeOnes_2 : decode cX10_ripeOnes 2 = .ok (.iconst 0, 1) := by decide +kernel
theorem dX10_ripeOnes_3 : decode cX10_ripeOnes 3 = .ok (.istore_n 3, 1) := by decide +kernel
theorem dX10_ripeOnes_4 : decode cX10_ripeOnes 4 = .ok (.iload_n 3, 1) := by decide +kernel
theorem dX10_ripeOnes_5 : decode cX10_ripeOnes 5 = .ok (.aload_n 0, 1) := by decide +kernel
theorem dX10_ripeOnes_6 : decode cX10_ripeOnes 6 = .ok (.getfield 94, 3) := by decide +kernel
theorem dX10_ripeOnes_9 : decode cX10_ripeOnes 9 = .ok (.if_icmp .ge 29, 3) := by decide +kernel
theorem dX10_ripeOnes_12 : decode cX10_ripeOnes 12 = .ok (.iload_n 2, 1) := by decide +kernel
theorem dX10_ripeOnes_13 : decode cX10_ripeOnes 13 = .ok (.aload_n 0, 1) := by decide +kernel
theorem dX10_ripeOnes_14 : decode cX10_ripeOnes 14 = .ok (.getfield 22, 3) := by decide +kernel
theorem dX10_ripeOnes_17 : decode cX10_ripeOnes 17 = .ok (.iload_n 3, 1) := by decide +kernel
theorem dX10_ripeOnes_18 : decode cX10_ripeOnes 18 = .ok (.iaload, 1) := by decide +kernel
theorem dX10_ripeOnes_19 : decode cX10_ripeOnes 19 = .ok (.iload_n 1, 1) := by decide +kernel
theorem dX10_ripeOnes_20 : decode cX10_ripeOnes 20 = .ok (.if_icmp .gt 9, 3) := by decide +kernel
theorem dX10_ripeOnes_23 : decode cX10_ripeOnes 23 = .ok (.iconst 1, 1) := by decide +kernel
theorem dX10_ripeOnes_24 : decode cX10_ripeOnes 24 = .ok (.iload_n 3, 1) := by decide +kernel
theorem dX10_ripeOnes_25 : decode cX10_ripeOnes 25 = .ok (.ishl, 1) := by decide +kernel
theorem dX10_ripeOnes_26 : decode cX10_ripeOnes 26 = .ok (.goto 4, 3) := by decide +kernel
theorem dX10_ripeOnes_29 : decode cX10_ripeOnes 29 = .ok (.iconst 0, 1) := by decide +kernel
theorem dX10_ripeOnes_30 : decode cX10_ripeOnes 30 = .ok (.ior, 1) := by decide +kernel
theorem dX10_ripeOnes_31 : decode cX10_ripeOnes 31 = .ok (.istore_n 2, 1) := by decide +kernel
theorem dX10_ripeOnes_32 : decode cX10_ripeOnes 32 = .ok (.iinc 3 1, 3) := by decide +kernel
theorem dX10_ripeOnes_35 : decode cX10_ripeOnes 35 = .ok (.goto (-31), 3) := by decide +kernel
theorem dX10_ripeOnes_38 : decode cX10_ripeOnes 38 = .ok (.iload_n 2, 1) := by decide +kernel
theorem dX10_ripeOnes_39 : decode cX10_ripeOnes 39 = .ok (.ireturn, 1) := by decide +kernel
theorem dX10_reachedFrom_0 : decode cX10_reachedFrom 0 = .ok (.iconst 0, 1) := by decide +kernel
theorem dX10_reachedFrom_1 : decode cX10_reachedFrom 1 = .ok (.istore 4, 2) := by decide +kernel
theorem dX10_reachedFrom_3 : decode cX10_reachedFrom 3 = .ok (.iconst 0, 1) := by decide +kernel
theorem dX10_reachedFrom_4 : decode cX10_reachedFrom 4 = .ok (.istore 5, 2) := by decide +kernel
theorem dX10_reachedFrom_6 : decode cX10_reachedFrom 6 = .ok (.iload 5, 2) := by decide +kernel
theorem dX10_reachedFrom_8 : decode cX10_reachedFrom 8 = .ok (.aload_n 0, 1) := by decide +kernel
theorem dX10_reachedFrom_9 : decode cX10_reachedFrom 9 = .ok (.getfield 94, 3) := by decide +kernel
theorem dX10_reachedFrom_12 : decode cX10_reachedFrom 12 = .ok (.if_icmp .ge 38, 3) := by decide +kernel
theorem dX10_reachedFrom_15 : decode cX10_reachedFrom 15 = .ok (.iload 4, 2) := by decide +kernel
theorem dX10_reachedFrom_17 : decode cX10_reachedFrom 17 = .ok (.aload_n 0, 1) := by decide +kernel
theorem dX10_reachedFrom_18 : decode cX10_reachedFrom 18 = .ok (.iload 5, 2) := by decide +kernel
theorem dX10_reachedFrom_20 : decode cX10_reachedFrom 20 = .ok (.iload_n 1, 1) := by decide +kernel
theorem dX10_reachedFrom_21 : decode cX10_reachedFrom 21 = .ok (.aload_n 0, 1) := by decide +kernel
theorem dX10_reachedFrom_22 : decode cX10_reachedFrom 22 = .ok (.iload_n 2, 1) := by decide +kernel
theorem dX10_reachedFrom_23 : decode cX10_reachedFrom 23 = .ok (.iload_n 3, 1) := by decide +kernel
theorem dX10_reachedFrom_24 : decode cX10_reachedFrom 24 = .ok (.invokevirtual 214, 3) := by decide +kernel
theorem dX10_reachedFrom_27 : decode cX10_reachedFrom 27 = .ok (.invokevirtual 217, 3) := by decide +kernel
theorem dX10_reachedFrom_30 : decode cX10_reachedFrom 30 = .ok (.ifCond .eq 10, 3) := by decide +kernel
theorem dX10_reachedFrom_33 : decode cX10_reachedFrom 33 = .ok (.iconst 1, 1) := by decide +kernel
theorem dX10_reachedFrom_34 : decode cX10_reachedFrom 34 = .ok (.iload 5, 2) := by decide +kernel
theorem dX10_reachedFrom_36 : decode cX10_reachedFrom 36 = .ok (.ishl, 1) := by decide +kernel
theorem dX10_reachedFrom_37 : decode cX10_reachedFrom 37 = .ok (.goto 4, 3) := by decide +kernel
theorem dX10_reachedFrom_40 : decode cX10_reachedFrom 40 = .ok (.iconst 0, 1) := by decide +kernel
theorem dX10_reachedFrom_41 : decode cX10_reachedFrom 41 = .ok (.ior, 1) := by decide +kernel
theorem dX10_reachedFrom_42 : decode cX10_reachedFrom 42 = .ok (.istore 4, 2) := by decide +kernel
theorem dX10_reachedFrom_44 : decode cX10_reachedFrom 44 = .ok (.iinc 5 1, 3) := by decide +kernel
theorem dX10_reachedFrom_47 : decode cX10_reachedFrom 47 = .ok (.goto (-41), 3) := by decide +kernel
theorem dX10_reachedFrom_50 : decode cX10_reachedFrom 50 = .ok (.iload 4, 2) := by decide +kernel
theorem dX10_reachedFrom_52 : decode cX10_reachedFrom 52 = .ok (.ireturn, 1) := by decide +kernel
theorem dX10_byHand_0 : decode cX10_byHand 0 = .ok (.aload_n 0, 1) := by decide +kernel
theorem dX10_byHand_1 : decode cX10_byHand 1 = .ok (.iload_n 1, 1) := by decide +kernel
theorem dX10_byHand_2 : decode cX10_byHand 2 = .ok (.aload_n 0, 1) := by decide +kernel
theorem dX10_byHand_3 : decode cX10_byHand 3 = .ok (.getfield 9, 3) := by decide +kernel
theorem dX10_byHand_6 : decode cX10_byHand 6 = .ok (.bipush 18, 2) := by decide +kernel
theorem dX10_byHand_8 : decode cX10_byHand 8 = .ok (.iaload, 1) := by decide +kernel
theorem dX10_byHand_9 : decode cX10_byHand 9 = .ok (.iconst 0, 1) := by decide +kernel
theorem dX10_byHand_10 : decode cX10_byHand 10 = .ok (.invokevirtual 220, 3) := by decide +kernel
theorem dX10_byHand_13 : decode cX10_byHand 13 = .ok (.ireturn, 1) := by decide +kernel
theorem dX10_goShake_0 : decode cX10_goShake 0 = .ok (.aload_n 0, 1) := by decide +kernel
theorem dX10_goShake_1 : decode cX10_goShake 1 = .ok (.aload_n 0, 1) := by decide +kernel
theorem dX10_goShake_2 : decode cX10_goShake 2 = .ok (.getfield 9, 3) := by decide +kernel
theorem dX10_goShake_5 : decode cX10_goShake 5 = .ok (.iconst 0, 1) := by decide +kernel
theorem dX10_goShake_6 : decode cX10_goShake 6 = .ok (.invokevirtual 244, 3) := by decide +kernel
theorem dX10_goShake_9 : decode cX10_goShake 9 = .ok (.aload_n 0, 1) := by decide +kernel
theorem dX10_goShake_10 : decode cX10_goShake 10 = .ok (.aload_n 0, 1) := by decide +kernel
theorem dX10_goShake_11 : decode cX10_goShake 11 = .ok (.getfield 9, 3) := by decide +kernel
theorem dX10_goShake_14 : decode cX10_goShake 14 = .ok (.bipush 19, 2) := by decide +kernel
theorem dX10_goShake_16 : decode cX10_goShake 16 = .ok (.iaload, 1) := by decide +kernel
theorem dX10_goShake_17 : decode cX10_goShake 17 = .ok (.invokevirtual 301, 3) := by decide +kernel
theorem dX10_goShake_20 : decode cX10_goShake 20 = .ok (.iand, 1) := by decide +kernel
theorem dX10_goShake_21 : decode cX10_goShake 21 = .ok (.aload_n 0, 1) := by decide +kernel
theorem dX10_goShake_22 : decode cX10_goShake 22 = .ok (.aload_n 0, 1) := by decide +kernel
theorem dX10_goShake_23 : decode cX10_goShake 23 = .ok (.getfield 9, 3) := by decide +kernel
theorem dX10_goShake_26 : decode cX10_goShake 26 = .ok (.bipush 17, 2) := by decide +kernel
theorem dX10_goShake_28 : decode cX10_goShake 28 = .ok (.iaload, 1) := by decide +kernel
theorem dX10_goShake_29 : decode cX10_goShake 29 = .ok (.invokevirtual 304, 3) := by decide +kernel
theorem dX10_goShake_32 : decode cX10_goShake 32 = .ok (.iand, 1) := by decide +kernel
theorem dX10_goShake_33 : decode cX10_goShake 33 = .ok (.istore_n 1, 1) := by decide +kernel
theorem dX10_goShake_34 : decode cX10_goShake 34 = .ok (.aload_n 0, 1) := by decide +kernel
theorem dX10_goShake_35 : decode cX10_goShake 35 = .ok (.aload_n 0, 1) := by decide +kernel
theorem dX10_goShake_36 : decode cX10_goShake 36 = .ok (.getfield 9, 3) := by decide +kernel
theorem dX10_goShake_39 : decode cX10_goShake 39 = .ok (.iconst 0, 1) := by decide +kernel
theorem dX10_goShake_40 : decode cX10_goShake 40 = .ok (.invokevirtual 244, 3) := by decide +kernel
theorem dX10_goShake_43 : decode cX10_goShake 43 = .ok (.iload_n 1, 1) := by decide +kernel
theorem dX10_goShake_44 : decode cX10_goShake 44 = .ok (.iconst (-1), 1) := by decide +kernel
theorem dX10_goShake_45 : decode cX10_goShake 45 = .ok (.ixor, 1) := by decide +kernel
theorem dX10_goShake_46 : decode cX10_goShake 46 = .ok (.iand, 1) := by decide +kernel
theorem dX10_goShake_47 : decode cX10_goShake 47 = .ok (.istore_n 2, 1) := by decide +kernel
theorem dX10_goShake_48 : decode cX10_goShake 48 = .ok (.iconst 0, 1) := by decide +kernel
theorem dX10_goShake_49 : decode cX10_goShake 49 = .ok (.istore_n 3, 1) := by decide +kernel
theorem dX10_goShake_50 : decode cX10_goShake 50 = .ok (.iload_n 3, 1) := by decide +kernel
theorem dX10_goShake_51 : decode cX10_goShake 51 = .ok (.aload_n 0, 1) := by decide +kernel
theorem dX10_goShake_52 : decode cX10_goShake 52 = .ok (.getfield 94, 3) := by decide +kernel
theorem dX10_goShake_55 : decode cX10_goShake 55 = .ok (.if_icmp .ge 47, 3) := by decide +kernel
theorem dX10_goShake_58 : decode cX10_goShake 58 = .ok (.iload_n 1, 1) := by decide +kernel
theorem dX10_goShake_59 : decode cX10_goShake 59 = .ok (.iload_n 3, 1) := by decide +kernel
theorem dX10_goShake_60 : decode cX10_goShake 60 = .ok (.invokestatic 227, 3) := by decide +kernel
theorem dX10_goShake_63 : decode cX10_goShake 63 = .ok (.ifCond .ne 6, 3) := by decide +kernel
theorem dX10_goShake_66 : decode cX10_goShake 66 = .ok (.goto 30, 3) := by decide +kernel
theorem dX10_goShake_69 : decode cX10_goShake 69 = .ok (.aload_n 0, 1) := by decide +kernel
theorem dX10_goShake_70 : decode cX10_goShake 70 = .ok (.getfield 9, 3) := by decide +kernel
theorem dX10_goShake_73 : decode cX10_goShake 73 = .ok (.iload_n 3, 1) := by decide +kernel
theorem dX10_goShake_74 : decode cX10_goShake 74 = .ok (.iconst 3, 1) := by decide +kernel
theorem dX10_goShake_75 : decode cX10_goShake 75 = .ok (.iastore, 1) := by decide +kernel
theorem dX10_goShake_76 : decode cX10_goShake 76 = .ok (.aload_n 0, 1) := by decide +kernel
theorem dX10_goShake_77 : decode cX10_goShake 77 = .ok (.getfield 9, 3) := by decide +kernel
theorem dX10_goShake_80 : decode cX10_goShake 80 = .ok (.bipush 16, 2) := by decide +kernel
theorem dX10_goShake_82 : decode cX10_goShake 82 = .ok (.dup2, 1) := by decide +kernel
theorem dX10_goShake_83 : decode cX10_goShake 83 = .ok (.iaload, 1) := by decide +kernel
theorem dX10_goShake_84 : decode cX10_goShake 84 = .ok (.iconst 1, 1) := by decide +kernel
theorem dX10_goShake_85 : decode cX10_goShake 85 = .ok (.iload_n 3, 1) := by decide +kernel
theorem dX10_goShake_86 : decode cX10_goShake 86 = .ok (.ishl, 1) := by decide +kernel
theorem dX10_goShake_87 : decode cX10_goShake 87 = .ok (.aload_n 0, 1) := by decide +kernel
theorem dX10_goShake_88 : decode cX10_goShake 88 = .ok (.iload_n 3, 1) := by decide +kernel
theorem dX10_goShake_89 : decode cX10_goShake 89 = .ok (.iload_n 2, 1) := by decide +kernel
theorem dX10_goShake_90 : decode cX10_goShake 90 = .ok (.invokevirtual 248, 3) := by decide +kernel
theorem dX10_goShake_93 : decode cX10_goShake 93 = .ok (.ior, 1) := by decide +kernel
theorem dX10_goShake_94 : decode cX10_goShake 94 = .ok (.ior, 1) := by decide +kernel
theorem dX10_goShake_95 : decode cX10_goShake 95 = .ok (.iastore, 1) := by decide +kernel
theorem dX10_goShake_96 : decode cX10_goShake 96 = .ok (.iinc 3 1, 3) := by decide +kernel
theorem dX10_goShake_99 : decode cX10_goShake 99 = .ok (.goto (-49), 3) := by decide +kernel
theorem dX10_goShake_102 : decode cX10_goShake 102 = .ok (.aload_n 0, 1) := by decide +kernel
theorem dX10_goShake_103 : decode cX10_goShake 103 = .ok (.iconst 5, 1) := by decide +kernel
theorem dX10_goShake_104 : decode cX10_goShake 104 = .ok (.invokevirtual 267, 3) := by decide +kernel
theorem dX10_goShake_107 : decode cX10_goShake 107 = .ok (.iload_n 1, 1) := by decide +kernel
theorem dX10_goShake_108 : decode cX10_goShake 108 = .ok (.invokestatic 280, 3) := by decide +kernel
theorem dX10_goShake_111 : decode cX10_goShake 111 = .ok (.ireturn, 1) := by decide +kernel
theorem dX10_shake_0 : decode cX10_shake 0 = .ok (.aload_n 0, 1) := by decide +kernel
theorem dX10_shake_1 : decode cX10_shake 1 = .ok (.iconst 0, 1) := by decide +kernel
theorem dX10_shake_2 : decode cX10_shake 2 = .ok (.putfield 87, 3) := by decide +kernel
theorem dX10_shake_5 : decode cX10_shake 5 = .ok (.aload_n 0, 1) := by decide +kernel
theorem dX10_shake_6 : decode cX10_shake 6 = .ok (.getfield 9, 3) := by decide +kernel
theorem dX10_shake_9 : decode cX10_shake 9 = .ok (.bipush 17, 2) := by decide +kernel
theorem dX10_shake_11 : decode cX10_shake 11 = .ok (.iaload, 1) := by decide +kernel
theorem dX10_shake_12 : decode cX10_shake 12 = .ok (.iconst (-1), 1) := by decide +kernel
theorem dX10_shake_13 : decode cX10_shake 13 = .ok (.if_icmp .ne 6, 3) := by decide +kernel
theorem dX10_shake_16 : decode cX10_shake 16 = .ok (.bipush (-2), 2) := by decide +kernel
theorem dX10_shake_18 : decode cX10_shake 18 = .ok (.ireturn, 1) := by decide +kernel
theorem dX10_shake_19 : decode cX10_shake 19 = .ok (.aload_n 0, 1) := by decide +kernel
theorem dX10_shake_20 : decode cX10_shake 20 = .ok (.aload_n 0, 1) := by decide +kernel
theorem dX10_shake_21 : decode cX10_shake 21 = .ok (.getfield 9, 3) := by decide +kernel
theorem dX10_shake_24 : decode cX10_shake 24 = .ok (.invokevirtual 273, 3) := by decide +kernel
theorem dX10_shake_27 : decode cX10_shake 27 = .ok (.aload_n 0, 1) := by decide +kernel
theorem dX10_shake_28 : decode cX10_shake 28 = .ok (.invokevirtual 307, 3) := by decide +kernel
theorem dX10_shake_31 : decode cX10_shake 31 = .ok (.ireturn, 1) := by decide +kernel
theorem dX10_goSleep_0 : decode cX10_goSleep 0 = .ok (.aload_n 0, 1) := by decide +kernel
theorem dX10_goSleep_1 : decode cX10_goSleep 1 = .ok (.invokevirtual 264, 3) := by decide +kernel
theorem dX10_goSleep_4 : decode cX10_goSleep 4 = .ok (.pop, 1) := by decide +kernel
theorem dX10_goSleep_5 : decode cX10_goSleep 5 = .ok (.aload_n 0, 1) := by decide +kernel
theorem dX10_goSleep_6 : decode cX10_goSleep 6 = .ok (.getfield 9, 3) := by decide +kernel
theorem dX10_goSleep_9 : decode cX10_goSleep 9 = .ok (.bipush 17, 2) := by decide +kernel
theorem dX10_goSleep_11 : decode cX10_goSleep 11 = .ok (.iconst (-1), 1) := by decide +kernel
theorem dX10_goSleep_12 : decode cX10_goSleep 12 = .ok (.iastore, 1) := by decide +kernel
theorem dX10_goSleep_13 : decode cX10_goSleep 13 = .ok (.aload_n 0, 1) := by decide +kernel
theorem dX10_goSleep_14 : decode cX10_goSleep 14 = .ok (.getfield 9, 3) := by decide +kernel
theorem dX10_goSleep_17 : decode cX10_goSleep 17 = .ok (.bipush 20, 2) := by decide +kernel
theorem dX10_goSleep_19 : decode cX10_goSleep 19 = .ok (.iconst 0, 1) := by decide +kernel
theorem dX10_goSleep_20 : decode cX10_goSleep 20 = .ok (.iastore, 1) := by decide +kernel
theorem dX10_goSleep_21 : decode cX10_goSleep 21 = .ok (.aload_n 0, 1) := by decide +kernel
theorem dX10_goSleep_22 : decode cX10_goSleep 22 = .ok (.getfield 9, 3) := by decide +kernel
theorem dX10_goSleep_25 : decode cX10_goSleep 25 = .ok (.bipush 19, 2) := by decide +kernel
theorem dX10_goSleep_27 : decode cX10_goSleep 27 = .ok (.dup2, 1) := by decide +kernel
theorem dX10_goSleep_28 : decode cX10_goSleep 28 = .ok (.iaload, 1) := by decide +kernel
theorem dX10_goSleep_29 : decode cX10_goSleep 29 = .ok (.iconst 1, 1) := by decide +kernel
theorem dX10_goSleep_30 : decode cX10_goSleep 30 = .ok (.iadd, 1) := by decide +kernel
theorem dX10_goSleep_31 : decode cX10_goSleep 31 = .ok (.iastore, 1) := by decide +kernel
theorem dX10_goSleep_32 : decode cX10_goSleep 32 = .ok (.aload_n 0, 1) := by decide +kernel
theorem dX10_goSleep_33 : decode cX10_goSleep 33 = .ok (.getfield 9, 3) := by decide +kernel
theorem dX10_goSleep_36 : decode cX10_goSleep 36 = .ok (.bipush 19, 2) := by decide +kernel
theorem dX10_goSleep_38 : decode cX10_goSleep 38 = .ok (.iaload, 1) := by decide +kernel
theorem dX10_goSleep_39 : decode cX10_goSleep 39 = .ok (.ireturn, 1) := by decide +kernel
theorem dX10_sleep_0 : decode cX10_sleep 0 = .ok (.aload_n 0, 1) := by decide +kernel
theorem dX10_sleep_1 : decode cX10_sleep 1 = .ok (.iconst 0, 1) := by decide +kernel
theorem dX10_sleep_2 : decode cX10_sleep 2 = .ok (.putfield 87, 3) := by decide +kernel
theorem dX10_sleep_5 : decode cX10_sleep 5 = .ok (.aload_n 0, 1) := by decide +kernel
theorem dX10_sleep_6 : decode cX10_sleep 6 = .ok (.getfield 9, 3) := by decide +kernel
theorem dX10_sleep_9 : decode cX10_sleep 9 = .ok (.bipush 19, 2) := by decide +kernel
theorem dX10_sleep_11 : decode cX10_sleep 11 = .ok (.iaload, 1) := by decide +kernel
theorem dX10_sleep_12 : decode cX10_sleep 12 = .ok (.bipush 9, 2) := by decide +kernel
theorem dX10_sleep_14 : decode cX10_sleep 14 = .ok (.if_icmp .ne 5, 3) := by decide +kernel
theorem dX10_sleep_17 : decode cX10_sleep 17 = .ok (.iconst (-1), 1) := by decide +kernel
theorem dX10_sleep_18 : decode cX10_sleep 18 = .ok (.ireturn, 1) := by decide +kernel
theorem dX10_sleep_19 : decode cX10_sleep 19 = .ok (.aload_n 0, 1) := by decide +kernel
theorem dX10_sleep_20 : decode cX10_sleep 20 = .ok (.aload_n 0, 1) := by decide +kernel
theorem dX10_sleep_21 : decode cX10_sleep 21 = .ok (.getfield 9, 3) := by decide +kernel
theorem dX10_sleep_24 : decode cX10_sleep 24 = .ok (.invokevirtual 273, 3) := by decide +kernel
theorem dX10_sleep_27 : decode cX10_sleep 27 = .ok (.aload_n 0, 1) := by decide +kernel
theorem dX10_sleep_28 : decode cX10_sleep 28 = .ok (.invokevirtual 310, 3) := by decide +kernel
theorem dX10_sleep_31 : decode cX10_sleep 31 = .ok (.ireturn, 1) := by decide +kernel
theorem dX10_readAct_0 : decode cX10_readAct 0 = .ok (.aload_n 0, 1) := by decide +kernel
theorem dX10_readAct_1 : decode cX10_readAct 1 = .ok (.invokevirtual 126, 3) := by decide +kernel
theorem dX10_readAct_4 : decode cX10_readAct 4 = .ok (.istore_n 2, 1) := by decide +kernel
theorem dX10_readAct_5 : decode cX10_readAct 5 = .ok (.iload_n 2, 1) := by decide +kernel
theorem dX10_readAct_6 : decode cX10_readAct 6 = .ok (.bipush 109, 2) := by decide +kernel
theorem dX10_readAct_8 : decode cX10_readAct 8 = .ok (.if_icmp .eq 53, 3) := by decide +kernel
theorem dX10_readAct_11 : decode cX10_readAct 11 = .ok (.iload_n 2, 1) := by decide +kernel
theorem dX10_readAct_12 : decode cX10_readAct 12 = .ok (.bipush 112, 2) := by decide +kernel
theorem dX10_readAct_14 : decode cX10_readAct 14 = .ok (.if_icmp .eq 47, 3) := by decide +kernel
theorem dX10_readAct_17 : decode cX10_readAct 17 = .ok (.iload_n 2, 1) := by decide +kernel
theorem dX10_readAct_18 : decode cX10_readAct 18 = .ok (.bipush 104, 2) := by decide +kernel
theorem dX10_readAct_20 : decode cX10_readAct 20 = .ok (.if_icmp .eq 41, 3) := by decide +kernel
theorem dX10_readAct_23 : decode cX10_readAct 23 = .ok (.iload_n 2, 1) := by decide +kernel
theorem dX10_readAct_24 : decode cX10_readAct 24 = .ok (.bipush 100, 2) := by decide +kernel
theorem dX10_readAct_26 : decode cX10_readAct 26 = .ok (.if_icmp .eq 35, 3) := by decide +kernel
theorem dX10_readAct_29 : decode cX10_readAct 29 = .ok (.iload_n 2, 1) := by decide +kernel
theorem dX10_readAct_30 : decode cX10_readAct 30 = .ok (.bipush 107, 2) := by decide +kernel
theorem dX10_readAct_32 : decode cX10_readAct 32 = .ok (.if_icmp .eq 29, 3) := by decide +kernel
theorem dX10_readAct_35 : decode cX10_readAct 35 = .ok (.iload_n 2, 1) := by decide +kernel
theorem dX10_readAct_36 : decode cX10_readAct 36 = .ok (.bipush 97, 2) := by decide +kernel
theorem dX10_readAct_38 : decode cX10_readAct 38 = .ok (.if_icmp .eq 23, 3) := by decide +kernel
theorem dX10_readAct_41 : decode cX10_readAct 41 = .ok (.iload_n 2, 1) := by decide +kernel
theorem dX10_readAct_42 : decode cX10_readAct 42 = .ok (.bipush 111, 2) := by decide +kernel
theorem dX10_readAct_44 : decode cX10_readAct 44 = .ok (.if_icmp .eq 17, 3) := by decide +kernel
theorem dX10_readAct_47 : decode cX10_readAct 47 = .ok (.iload_n 2, 1) := by decide +kernel
theorem dX10_readAct_48 : decode cX10_readAct 48 = .ok (.bipush 122, 2) := by decide +kernel
theorem dX10_readAct_50 : decode cX10_readAct 50 = .ok (.if_icmp .eq 11, 3) := by decide +kernel
theorem dX10_readAct_53 : decode cX10_readAct 53 = .ok (.aload_n 0, 1) := by decide +kernel
theorem dX10_readAct_54 : decode cX10_readAct 54 = .ok (.aload_n 0, 1) := by decide +kernel
theorem dX10_readAct_55 : decode cX10_readAct 55 = .ok (.getfield 116, 3) := by decide +kernel
theorem dX10_readAct_58 : decode cX10_readAct 58 = .ok (.invokevirtual 134, 3) := by decide +kernel
theorem dX10_readAct_61 : decode cX10_readAct 61 = .ok (.aload_n 0, 1) := by decide +kernel
theorem dX10_readAct_62 : decode cX10_readAct 62 = .ok (.dup, 1) := by decide +kernel
theorem dX10_readAct_63 : decode cX10_readAct 63 = .ok (.getfield 116, 3) := by decide +kernel
theorem dX10_readAct_66 : decode cX10_readAct 66 = .ok (.iconst 1, 1) := by decide +kernel
theorem dX10_readAct_67 : decode cX10_readAct 67 = .ok (.iadd, 1) := by decide +kernel
theorem dX10_readAct_68 : decode cX10_readAct 68 = .ok (.putfield 116, 3) := by decide +kernel
theorem dX10_readAct_71 : decode cX10_readAct 71 = .ok (.aload_n 0, 1) := by decide +kernel
theorem dX10_readAct_72 : decode cX10_readAct 72 = .ok (.getfield 56, 3) := by decide +kernel
theorem dX10_readAct_75 : decode cX10_readAct 75 = .ok (.iload_n 1, 1) := by decide +kernel
theorem dX10_readAct_76 : decode cX10_readAct 76 = .ok (.iload_n 2, 1) := by decide +kernel
theorem dX10_readAct_77 : decode cX10_readAct 77 = .ok (.iastore, 1) := by decide +kernel
theorem dX10_readAct_78 : decode cX10_readAct 78 = .ok (.iload_n 2, 1) := by decide +kernel
theorem dX10_readAct_79 : decode cX10_readAct 79 = .ok (.bipush 109, 2) := by decide +kernel
theorem dX10_readAct_81 : decode cX10_readAct 81 = .ok (.if_icmp .ne 16, 3) := by decide +kernel
theorem dX10_readAct_84 : decode cX10_readAct 84 = .ok (.aload_n 0, 1) := by decide +kernel
theorem dX10_readAct_85 : decode cX10_readAct 85 = .ok (.getfield 56, 3) := by decide +kernel
theorem dX10_readAct_88 : decode cX10_readAct 88 = .ok (.iload_n 1, 1) := by decide +kernel
theorem dX10_readAct_89 : decode cX10_readAct 89 = .ok (.iconst 1, 1) := by decide +kernel
theorem dX10_readAct_90 : decode cX10_readAct 90 = .ok (.iadd, 1) := by decide +kernel
theorem dX10_readAct_91 : decode cX10_readAct 91 = .ok (.aload_n 0, 1) := by decide +kernel
theorem dX10_readAct_92 : decode cX10_readAct 92 = .ok (.iconst 1, 1) := by decide +kernel
theorem dX10_readAct_93 : decode cX10_readAct 93 = .ok (.invokevirtual 141, 3) := by decide +kernel
theorem dX10_readAct_96 : decode cX10_readAct 96 = .ok (.iastore, 1) := by decide +kernel
theorem dX10_readAct_97 : decode cX10_readAct 97 = .ok (.iload_n 2, 1) := by decide +kernel
theorem dX10_readAct_98 : decode cX10_readAct 98 = .ok (.bipush 112, 2) := by decide +kernel
theorem dX10_readAct_100 : decode cX10_readAct 100 = .ok (.if_icmp .eq 9, 3) := by decide +kernel
theorem dX10_readAct_103 : decode cX10_readAct 103 = .ok (.iload_n 2, 1) := by decide +kernel
theorem dX10_readAct_104 : decode cX10_readAct 104 = .ok (.bipush 104, 2) := by decide +kernel
theorem dX10_readAct_106 : decode cX10_readAct 106 = .ok (.if_icmp .ne 16, 3) := by decide +kernel
theorem dX10_readAct_109 : decode cX10_readAct 109 = .ok (.aload_n 0, 1) := by decide +kernel
theorem dX10_readAct_110 : decode cX10_readAct 110 = .ok (.getfield 56, 3) := by decide +kernel
theorem dX10_readAct_113 : decode cX10_readAct 113 = .ok (.iload_n 1, 1) := by decide +kernel
theorem dX10_readAct_114 : decode cX10_readAct 114 = .ok (.iconst 1, 1) := by decide +kernel
theorem dX10_readAct_115 : decode cX10_readAct 115 = .ok (.iadd, 1) := by decide +kernel
theorem dX10_readAct_116 : decode cX10_readAct 116 = .ok (.aload_n 0, 1) := by decide +kernel
theorem dX10_readAct_117 : decode cX10_readAct 117 = .ok (.iconst 2, 1) := by decide +kernel
theorem dX10_readAct_118 : decode cX10_readAct 118 = .ok (.invokevirtual 141, 3) := by decide +kernel
theorem dX10_readAct_121 : decode cX10_readAct 121 = .ok (.iastore, 1) := by decide +kernel
theorem dX10_readAct_122 : decode cX10_readAct 122 = .ok (.return_, 1) := by decide +kernel
theorem dX10_act_0 : decode cX10_act 0 = .ok (.iload_n 1, 1) := by decide +kernel
theorem dX10_act_1 : decode cX10_act 1 = .ok (.tableswitch 195 97 112 #[175, 195, 195, 139, 195, 195, 195, 97, 195, 195, 155, 195, 79, 195, 175, 97], 79) := by decide +kernel
theorem dX10_act_80 : decode cX10_act 80 = .ok (.aload_n 0, 1) := by decide +kernel
theorem dX10_act_81 : decode cX10_act 81 = .ok (.iload_n 2, 1) := by decide +kernel
theorem dX10_act_82 : decode cX10_act 82 = .ok (.invokevirtual 270, 3) := by decide +kernel
theorem dX10_act_85 : decode cX10_act 85 = .ok (.ifCond .ge 5, 3) := by decide +kernel
theorem dX10_act_88 : decode cX10_act 88 = .ok (.iconst 0, 1) := by decide +kernel
theorem dX10_act_89 : decode cX10_act 89 = .ok (.ireturn, 1) := by decide +kernel
theorem dX10_act_90 : decode cX10_act 90 = .ok (.aload_n 0, 1) := by decide +kernel
theorem dX10_act_91 : decode cX10_act 91 = .ok (.iload_n 2, 1) := by decide +kernel
theorem dX10_act_92 : decode cX10_act 92 = .ok (.invokevirtual 277, 3) := by decide +kernel
theorem dX10_act_95 : decode cX10_act 95 = .ok (.pop, 1) := by decide +kernel
theorem dX10_act_96 : decode cX10_act 96 = .ok (.iconst 1, 1) := by decide +kernel
theorem dX10_act_97 : decode cX10_act 97 = .ok (.ireturn, 1) := by decide +kernel
